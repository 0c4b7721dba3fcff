/-! the law's walk, from its entry to its end -/
section LF_
variable {X : XS} {nm : String}
theorem hN_l : hNew.length = 51 := rfl
set_option maxHeartbeats 1000000 in
theorem wp_law (hX : X.1 ≤ 2560) (hv : ∀ j, r32 (X.2 j)) : Wp X (kLn nm) 0 [some (vX 30), none, none, none] [] [] (600000, 7302249) (fun r _ => r = some (vI 1)) := by
  refine new6 (b0 := (599999, 7302238)) dL_law_0 rfl (tm1_1 (List.mem_of_getElem? (i := 2) rfl) rfl) (by decide) (by decide) ?_
  show Wp X (kLn nm) 3 [some (vX 30), none, none, none] [vR 0] [oO 6 [vN, vN, vN, vN, vN, vN, vN, vN, vN, vN, vN]] (599999, 7302238) _
  refine wp_dup dL_law_3 rfl ?_
  refine wp_invi (As := []) (S0 := [vR 0]) (b' := (599939, 7298238)) rfl dL_law_4 mX6_init iX6_init rfl rfl (Or.inl lL_9) rfl ⟨Nat.le_of_ble_eq_true rfl, Nat.le_of_ble_eq_true rfl, Nat.le_of_ble_eq_true rfl, Nat.le_of_ble_eq_true rfl⟩ (Nat.le_of_ble_eq_true rfl) (I_class ?_)
  show Wp X (kLn nm) 7 [some (vX 30), none, none, none] [vR 0] hNew (599939, 7298238) _
  refine wp_astore_n (L' := [some (vX 30), some (vR 0), none, none]) dL_law_7 (Nat.le_of_ble_eq_true rfl) rfl ?_
  refine new7 (b0 := (599938, 7298208)) dL_law_8 rfl (tm4_12 (List.mem_of_getElem? (i := 11) rfl) rfl) (by decide) (by decide) ?_
  refine wp_at hN_l ?_
  refine wp_dup dL_law_11 rfl ?_
  refine wp_invi (As := []) (S0 := [vR 51]) (b' := (599918, 7261208)) rfl dL_law_12 mX7_init iX7_init rfl rfl (Or.inl lL_12) rfl ⟨Nat.le_of_ble_eq_true rfl, Nat.le_of_ble_eq_true rfl, Nat.le_of_ble_eq_true rfl, Nat.le_of_ble_eq_true rfl⟩ (Nat.le_of_ble_eq_true rfl) (I_model rfl rfl ?_)
  show Wp X (kLn nm) 15 [some (vX 30), some (vR 0), none, none] [vR 51] hStart (599918, 7261208) _
  refine wp_astore_n (L' := [some (vX 30), some (vR 0), some (vR 51), none]) dL_law_15 (Nat.le_of_ble_eq_true rfl) rfl ?_
  refine wp_iconst dL_law_16 ?_
  refine wp_istore_n (L' := LL 0) dL_law_17 (Nat.le_of_ble_eq_true rfl) rfl ?_
  exact lp_law hX hv (fun _ => rfl) 512 hStart 1000 0 599918 7261208 inv_new (by decide) (by decide) (by decide) (by decide) (by decide) (by decide)
end LF_
