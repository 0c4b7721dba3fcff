/-! a shelf as a row of keys, both faces -/
section KA
variable {X : XS} {h : AH} {Q : Option AV → AH → Prop} {sp kp : AV} {Rc : Int → Int → Int} {Zc : Int → Int} {g Kp : Int → Int} {dn km ln ik B : Int} {T P PS R Z I : Int → Int}
def rSee (Z : Int → Int) (d : Int) : Int := if 0 ≤ d ∧ d ≤ 3 then if Z d = -1 then -11 else 0 else -1
set_option maxHeartbeats 1000000 in
theorem C_lookAtRow {d : Int} (hM : MV h g Kp dn km T ln P PS R Z I ik) (rd : r32 d) (hZ : ∀ j, -1 ≤ Z j ∧ Z j ≤ 40) (hQ : Q (some (vI (rSee Z d))) h) : Cl X kX7_lookAtRow [vR 51, vI d] h Q := by
  refine cl_of rfl (Nat.le_of_ble_eq_true rfl) rfl ?_
  obtain ⟨⟨at_, ft, ac, mn, om, fw, mo, un, m51⟩, m52, m53, m54, -, m56, m57, -, -, -, -, -, -, -, -, m67, m68, m69, -⟩ := id hM
  have hR : ∀ j, r32 (Z j) := fun j => by have := hZ j; unfold r32; omega
  refine wp_iload_n dX7_lookAtRow_0 rfl ?_
  refine wp_is1 dX7_lookAtRow_1 SX7_isShelf lX7_323 (rq0 rfl rfl) (Nat.le_of_ble_eq_true rfl) (C_isShelf (by first | assumption | exact hR _ | exact bI_r _ | (unfold r32; omega)) ?_)
  dsimp only [pushR]
  refine wp_bne 11 dX7_lookAtRow_4 rfl (fun c4 => ?_) (fun c4 => ?_)
  · refine wp_aload_n dX7_lookAtRow_11 rfl ?_
    refine wp_getf dX7_lookAtRow_12 fX7_76 m51 rfl ?_
    refine wp_iload_n dX7_lookAtRow_15 rfl ?_
    refine wp_iav (v := Z d) dX7_lookAtRow_16 m68 (by decide) (by omega) rfl ?_
    refine wp_iconst dX7_lookAtRow_17 ?_
    refine wp_icmp_ne 26 dX7_lookAtRow_18 rfl (by first | assumption | exact hR _ | exact bI_r _ | (unfold r32; omega)) ⟨by omega, by omega⟩ (fun c18 => ?_) (fun c18 => ?_)
    · refine wp_iconst dX7_lookAtRow_26 ?_
      exact wp_iret dX7_lookAtRow_27 rfl (by unfold rSee at hQ; (repeat' split at hQ) <;> first | (exfalso; omega) | exact hQ)
    · refine wp_bipush dX7_lookAtRow_21 rfl ?_
      refine wp_goto 27 dX7_lookAtRow_23 rfl ?_
      exact wp_iret dX7_lookAtRow_27 rfl (by unfold rSee at hQ; (repeat' split at hQ) <;> first | (exfalso; omega) | exact hQ)
  · refine wp_iconst dX7_lookAtRow_7 ?_
    refine wp_goto 27 dX7_lookAtRow_8 rfl ?_
    exact wp_iret dX7_lookAtRow_27 rfl (by unfold rSee at hQ; (repeat' split at hQ) <;> first | (exfalso; omega) | exact hQ)
/-- how many keys stand at the row's head -/
def kaL (r : Int → Int) : Nat → Int → Int
  | 0, k => k
  | m + 1, k => if 0 ≤ r k then if r k < 10 then kaL r m (k + 1) else k else k
set_option maxHeartbeats 1000000 in
theorem lp_ka {d : Int} {b : Nat × Nat} (h0 : h[0]? = some (oO 6 (cF sp kp))) (hS : SHc h Rc Zc) (hd : 0 ≤ d ∧ d < 4) (hZ : ∀ j, -1 ≤ Zc j ∧ Zc j ≤ 40) (hr6 : ∀ j, r64 (Rc d j)) : ∀ (m : Nat) (k : Int), k + m = Zc d → 0 ≤ k → Q (some (vI (kaL (Rc d) m k))) h → Wp X kX6_keysAhead 2 [some (vR 0), some (vI d), some (vI k)] [] h b Q := by
  have hR : ∀ j, r32 (Zc j) := fun j => by have := hZ j; unfold r32; omega
  have z := hZ d
  intro m
  induction m with
  | zero =>
    intro k q1 q2 hQ
    refine wp_iload_n dX6_keysAhead_2 rfl ?_
    refine wp_aload_n dX6_keysAhead_3 rfl ?_
    refine wp_getf dX6_keysAhead_4 fX6_68 h0 rfl ?_
    refine wp_iload_n dX6_keysAhead_7 rfl ?_
    refine wp_iav (v := Zc d) dX6_keysAhead_8 hS.2.2 (by decide) (by omega) rfl ?_
    refine wp_icmp_ge 46 dX6_keysAhead_9 rfl (by first | assumption | exact hR _ | exact bI_r _ | (unfold r32; omega)) (by first | assumption | exact hR _ | exact bI_r _ | (unfold r32; omega)) (fun c9 => ?_) (fun c9 => ?_)
    · refine wp_iload_n dX6_keysAhead_46 rfl ?_
      exact wp_iret dX6_keysAhead_47 rfl hQ
    · exfalso; omega
  | succ m ih =>
    intro k q1 q2 hQ
    unfold kaL at hQ
    refine wp_iload_n dX6_keysAhead_2 rfl ?_
    refine wp_aload_n dX6_keysAhead_3 rfl ?_
    refine wp_getf dX6_keysAhead_4 fX6_68 h0 rfl ?_
    refine wp_iload_n dX6_keysAhead_7 rfl ?_
    refine wp_iav (v := Zc d) dX6_keysAhead_8 hS.2.2 (by decide) (by omega) rfl ?_
    refine wp_icmp_ge 46 dX6_keysAhead_9 rfl (by first | assumption | exact hR _ | exact bI_r _ | (unfold r32; omega)) (by first | assumption | exact hR _ | exact bI_r _ | (unfold r32; omega)) (fun c9 => ?_) (fun c9 => ?_)
    · refine wp_iload_n dX6_keysAhead_46 rfl ?_
      exact wp_iret dX6_keysAhead_47 rfl (by (repeat' split at hQ) <;> first | (exfalso; omega) | exact hQ)
    · refine wp_aload_n dX6_keysAhead_12 rfl ?_
      refine wp_getf dX6_keysAhead_13 fX6_65 h0 rfl ?_
      refine wp_iload_n dX6_keysAhead_16 rfl ?_
      refine wp_aav (j' := (46 + d.toNat)) dX6_keysAhead_17 hS.1 (by decide) (by omega) (shF_at (by omega)) ?_
      refine wp_iload_n dX6_keysAhead_18 rfl ?_
      refine wp_lav (v := (Rc d) k) dX6_keysAhead_19 (hS.2.1 d (by omega)) (by decide) (by omega) rfl ?_
      refine wp_lconst (z := 0) dX6_keysAhead_20 rfl ?_
      refine wp_lc_lt 46 dX6_keysAhead_21 dX6_keysAhead_22 rfl (by first | exact hr6 _ | (unfold r64; omega)) ⟨by omega, by omega⟩ (fun c22 => ?_) (fun c22 => ?_)
      · refine wp_iload_n dX6_keysAhead_46 rfl ?_
        exact wp_iret dX6_keysAhead_47 rfl (by (repeat' split at hQ) <;> first | (exfalso; omega) | exact hQ)
      · refine wp_aload_n dX6_keysAhead_25 rfl ?_
        refine wp_getf dX6_keysAhead_26 fX6_65 h0 rfl ?_
        refine wp_iload_n dX6_keysAhead_29 rfl ?_
        refine wp_aav (j' := (46 + d.toNat)) dX6_keysAhead_30 hS.1 (by decide) (by omega) (shF_at (by omega)) ?_
        refine wp_iload_n dX6_keysAhead_31 rfl ?_
        refine wp_lav (v := (Rc d) k) dX6_keysAhead_32 (hS.2.1 d (by omega)) (by decide) (by omega) rfl ?_
        refine wp_ldc2 dX6_keysAhead_33 cX6_313 ?_
        refine wp_lc_ge 46 dX6_keysAhead_36 dX6_keysAhead_37 rfl (by first | exact hr6 _ | (unfold r64; omega)) ⟨by omega, by omega⟩ (fun c37 => ?_) (fun c37 => ?_)
        · refine wp_iload_n dX6_keysAhead_46 rfl ?_
          exact wp_iret dX6_keysAhead_47 rfl (by (repeat' split at hQ) <;> first | (exfalso; omega) | exact hQ)
        · refine wp_iinc (L' := [some (vR 0), some (vI d), some (vI (k + 1))]) dX6_keysAhead_40 rfl rfl ?_
          refine wp_goto 2 dX6_keysAhead_43 rfl ?_
          rw [if_pos (by omega), if_pos (by omega)] at hQ
          exact ih (k + 1) (by omega) (by omega) hQ
end KA
