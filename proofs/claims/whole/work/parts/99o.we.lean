/-! reading a word, the class -/
section WE
variable {X : XS} {h : AH} {Q : Option AV → AH → Prop} {T : Int → Int} {ln i : Int} {b : Nat × Nat}
theorem C_wordOf {k : Nat} (hk : k < 8) (hQ : Q (some (vX (10 + k))) h) : Cl X kX4_wordOf [vI (k : Int)] h Q := by
  refine cl_of rfl (Nat.le_of_ble_eq_true rfl) rfl ?_
  refine wp_iload_n dX4_wordOf_0 rfl ?_
  rcases (by omega : k = 0 ∨ k = 1 ∨ k = 2 ∨ k = 3 ∨ k = 4 ∨ k = 5 ∨ k = 6 ∨ k = 7) with rfl | rfl | rfl | rfl | rfl | rfl | rfl | rfl
  · refine wp_tableIn (off := 43) 44 dX4_wordOf_1 ⟨by omega, by omega⟩ (by omega) (by omega) rfl rfl ?_
    refine wp_ldcX (k := 0) (by omega) rfl rfl dX4_wordOf_44 ?_
    exact wp_aret dX4_wordOf_46 rfl hQ
  · refine wp_tableIn (off := 46) 47 dX4_wordOf_1 ⟨by omega, by omega⟩ (by omega) (by omega) rfl rfl ?_
    refine wp_ldcX (k := 1) (by omega) rfl rfl dX4_wordOf_47 ?_
    exact wp_aret dX4_wordOf_49 rfl hQ
  · refine wp_tableIn (off := 49) 50 dX4_wordOf_1 ⟨by omega, by omega⟩ (by omega) (by omega) rfl rfl ?_
    refine wp_ldcX (k := 2) (by omega) rfl rfl dX4_wordOf_50 ?_
    exact wp_aret dX4_wordOf_52 rfl hQ
  · refine wp_tableIn (off := 52) 53 dX4_wordOf_1 ⟨by omega, by omega⟩ (by omega) (by omega) rfl rfl ?_
    refine wp_ldcX (k := 3) (by omega) rfl rfl dX4_wordOf_53 ?_
    exact wp_aret dX4_wordOf_55 rfl hQ
  · refine wp_tableIn (off := 55) 56 dX4_wordOf_1 ⟨by omega, by omega⟩ (by omega) (by omega) rfl rfl ?_
    refine wp_ldcX (k := 4) (by omega) rfl rfl dX4_wordOf_56 ?_
    exact wp_aret dX4_wordOf_58 rfl hQ
  · refine wp_tableIn (off := 58) 59 dX4_wordOf_1 ⟨by omega, by omega⟩ (by omega) (by omega) rfl rfl ?_
    refine wp_ldcX (k := 5) (by omega) rfl rfl dX4_wordOf_59 ?_
    exact wp_aret dX4_wordOf_61 rfl hQ
  · refine wp_tableIn (off := 61) 62 dX4_wordOf_1 ⟨by omega, by omega⟩ (by omega) (by omega) rfl rfl ?_
    refine wp_ldcX (k := 6) (by omega) rfl rfl dX4_wordOf_62 ?_
    exact wp_aret dX4_wordOf_64 rfl hQ
  · refine wp_tableOut 65 dX4_wordOf_1 ⟨by omega, by omega⟩ (by omega) rfl ?_
    refine wp_ldcX (k := 7) (by omega) rfl rfl dX4_wordOf_65 ?_
    exact wp_aret dX4_wordOf_67 rfl hQ
set_option maxHeartbeats 1000000 in
theorem lp_stands {e : Int} {k : Nat} (h14 : h[14]? = some (oO 4 [vR 15, vI ln, vI i])) (h15 : h[15]? = some (oI 160 T)) (hi : 0 ≤ i ∧ i ≤ ln ∧ ln ≤ 160) (hk : k < 8) (he : e - i = ((xkC k).length : Int)) (hel : e ≤ ln) (hR : ∀ j, r32 (T j)) (hQ1 : STD T i e k → Q (some (vI 1)) h) (hQ0 : ¬ STD T i e k → Q (some (vI 0)) h) : ∀ (m : Nat) (z : Int), z + m = ((xkC k).length : Int) → 0 ≤ z → (∀ j : Int, 0 ≤ j ∧ j < z → T (i + j) = (xkC k).getD j.toNat 0) → Wp X kX4_stands 17 [some (vR 14), some (vX (10 + k)), some (vI e), some (vI z)] [] h b Q := by
  have f := xk_fin ⟨k, hk⟩
  have e3 : (xkC k).length ≤ 5 := f.2.2.1
  intro m
  induction m with
  | zero =>
    intro z q1 q2 q3
    refine wp_iload_n dX4_stands_17 rfl ?_
    refine wp_aload_n dX4_stands_18 rfl ?_
    refine wp_invt (K' := kJ0_length_8abf5) (As := []) (b' := b) rfl hk dX4_stands_19 mJ0_length_8abf5 iJ0_length_8abf5 vJ0_length_8abf5 lX4_55 rfl (rq0 rfl rfl) (Nat.le_of_ble_eq_true rfl) rfl (C_strlen hk ?_)
    dsimp only [pushR]
    refine wp_icmp_ge 52 dX4_stands_22 rfl (by first | assumption | exact hR _ | (unfold r32; omega)) (by first | assumption | exact hR _ | (unfold r32; omega)) (fun c22 => ?_) (fun c22 => ?_)
    · refine wp_iconst dX4_stands_52 ?_
      exact wp_zret dX4_stands_53 rfl (Or.inr rfl) (hQ1 ⟨he, fun j hj => q3 j (by omega)⟩)
    · exfalso; omega
  | succ m ih =>
    intro z q1 q2 q3
    have fj := f.2.2.2.2.2 ⟨z.toNat, by omega⟩ (by show z.toNat < (xkC k).length; omega)
    have c1 : 97 ≤ (xkC k).getD z.toNat 0 := fj.2.2.2.2.1
    have c2 : (xkC k).getD z.toNat 0 ≤ 122 := fj.2.2.2.2.2
    refine wp_iload_n dX4_stands_17 rfl ?_
    refine wp_aload_n dX4_stands_18 rfl ?_
    refine wp_invt (K' := kJ0_length_8abf5) (As := []) (b' := b) rfl hk dX4_stands_19 mJ0_length_8abf5 iJ0_length_8abf5 vJ0_length_8abf5 lX4_55 rfl (rq0 rfl rfl) (Nat.le_of_ble_eq_true rfl) rfl (C_strlen hk ?_)
    dsimp only [pushR]
    refine wp_icmp_ge 52 dX4_stands_22 rfl (by first | assumption | exact hR _ | (unfold r32; omega)) (by first | assumption | exact hR _ | (unfold r32; omega)) (fun c22 => ?_) (fun c22 => ?_)
    · refine wp_iconst dX4_stands_52 ?_
      exact wp_zret dX4_stands_53 rfl (Or.inr rfl) (by first | (exfalso; omega) | exact hQ0 (fun s => by have := s.2 z (by omega); omega))
    · refine wp_aload_n dX4_stands_25 rfl ?_
      refine wp_getf dX4_stands_26 fX4_9 h14 rfl ?_
      refine wp_aload_n dX4_stands_29 rfl ?_
      refine wp_getf dX4_stands_30 fX4_24 h14 rfl ?_
      refine wp_iload_n dX4_stands_33 rfl ?_
      refine wp_iadd dX4_stands_34 ?_
      refine wp_iav (v := T (i + z)) dX4_stands_35 h15 (by decide) (by omega) rfl ?_
      refine wp_aload_n dX4_stands_36 rfl ?_
      refine wp_iload_n dX4_stands_37 rfl ?_
      refine wp_invt (K' := kJ0_charAt_5068e) (As := [vI z]) (b' := b) rfl hk dX4_stands_38 mJ0_charAt_5068e iJ0_charAt_5068e vJ0_charAt_5068e lX4_59 rfl (rq0 rfl rfl) (Nat.le_of_ble_eq_true rfl) rfl (C_charAt hk (by omega) ?_)
      dsimp only [pushR]
      refine wp_icmp_eq 46 dX4_stands_41 rfl (by first | assumption | exact hR _ | (unfold r32; omega)) (by first | assumption | exact hR _ | (unfold r32; omega)) (fun c41 => ?_) (fun c41 => ?_)
      · refine wp_iinc (L' := [some (vR 14), some (vX (10 + k)), some (vI e), some (vI (z + 1))]) dX4_stands_46 rfl rfl ?_
        refine wp_goto 17 dX4_stands_49 rfl ?_
        exact ih (z + 1) (by omega) (by omega) (fun j hj => by rcases (by omega : j < z ∨ j = z) with e | e; exact q3 j (by omega); rw [e]; assumption)
      · refine wp_iconst dX4_stands_44 ?_
        exact wp_zret dX4_stands_45 rfl (Or.inl rfl) (by first | (exfalso; omega) | exact hQ0 (fun s => by have := s.2 z (by omega); omega))
theorem C_stands {e : Int} {k : Nat} (h14 : h[14]? = some (oO 4 [vR 15, vI ln, vI i])) (h15 : h[15]? = some (oI 160 T)) (hi : 0 ≤ i ∧ i ≤ ln ∧ ln ≤ 160) (hk : k < 8) (hel : i ≤ e ∧ e ≤ ln) (hR : ∀ j, r32 (T j)) (hQ1 : STD T i e k → Q (some (vI 1)) h) (hQ0 : ¬ STD T i e k → Q (some (vI 0)) h) : Cl X kX4_stands [vR 14, vX (10 + k), vI e] h Q := by
  refine cl_of rfl (Nat.le_of_ble_eq_true rfl) rfl ?_
  have f := xk_fin ⟨k, hk⟩
  have e3 : (xkC k).length ≤ 5 := f.2.2.1
  refine wp_aload_n dX4_stands_0 rfl ?_
  refine wp_invt (K' := kJ0_length_8abf5) (As := []) (b' := (0, 0)) rfl hk dX4_stands_1 mJ0_length_8abf5 iJ0_length_8abf5 vJ0_length_8abf5 lX4_55 rfl (rq0 rfl rfl) (Nat.le_of_ble_eq_true rfl) rfl (C_strlen hk ?_)
  dsimp only [pushR]
  refine wp_iload_n dX4_stands_4 rfl ?_
  refine wp_aload_n dX4_stands_5 rfl ?_
  refine wp_getf dX4_stands_6 fX4_24 h14 rfl ?_
  refine wp_isub dX4_stands_9 ?_
  refine wp_icmp_eq 15 dX4_stands_10 rfl (by first | assumption | exact hR _ | (unfold r32; omega)) (by first | assumption | exact hR _ | (unfold r32; omega)) (fun c10 => ?_) (fun c10 => ?_)
  · refine wp_iconst dX4_stands_15 ?_
    refine wp_istore_n (L' := [some (vR 14), some (vX (10 + k)), some (vI e), some (vI 0)]) dX4_stands_16 (by decide) rfl ?_
    exact lp_stands h14 h15 hi hk (by omega) hel.2 hR hQ1 hQ0 (xkC k).length 0 (by omega) (by omega) (fun j hj => by omega)
  · refine wp_iconst dX4_stands_13 ?_
    exact wp_zret dX4_stands_14 rfl (Or.inl rfl) (hQ0 (fun s => by have := s.1; omega))
set_option maxHeartbeats 1000000 in
theorem lp_wk {e : Int} (h14 : h[14]? = some (oO 4 [vR 15, vI ln, vI i])) (h15 : h[15]? = some (oI 160 T)) (hi : 0 ≤ i ∧ i ≤ ln ∧ ln ≤ 160) (hel : i ≤ e ∧ e ≤ ln) (hR : ∀ j, r32 (T j)) (hQ1 : ∀ k : Nat, k < 8 → STD T i e k → Q (some (vI (k : Int))) (h.set 14 (oO 4 [vR 15, vI ln, vI e]))) (hQ0 : (∀ k : Nat, k < 8 → ¬ STD T i e k) → Q (some (vI (-1))) h) : ∀ (m k : Nat), k + m = 8 → (∀ j : Nat, j < k → ¬ STD T i e j) → Wp X kX4_readWord 43 [some (vR 14), some (vI e), some (vI (k : Int))] [] h b Q := by
  intro m
  induction m with
  | zero =>
    intro k q1 q2
    refine wp_iload_n dX4_readWord_43 rfl ?_
    refine wp_bipush dX4_readWord_44 rfl ?_
    refine wp_icmp_ge 74 dX4_readWord_46 rfl (by first | assumption | exact hR _ | (unfold r32; omega)) ⟨by omega, by omega⟩ (fun c46 => ?_) (fun c46 => ?_)
    · refine wp_iconst dX4_readWord_74 ?_
      exact wp_iret dX4_readWord_75 rfl (hQ0 (fun j hj => q2 j (by omega)))
    · exfalso; omega
  | succ m ih =>
    intro k q1 q2
    have hk : k < 8 := by omega
    refine wp_iload_n dX4_readWord_43 rfl ?_
    refine wp_bipush dX4_readWord_44 rfl ?_
    refine wp_icmp_ge 74 dX4_readWord_46 rfl (by first | assumption | exact hR _ | (unfold r32; omega)) ⟨by omega, by omega⟩ (fun c46 => ?_) (fun c46 => ?_)
    · refine wp_iconst dX4_readWord_74 ?_
      exact wp_iret dX4_readWord_75 rfl (by first | (exfalso; omega) | exact hQ1 k hk st)
    · refine wp_aload_n dX4_readWord_49 rfl ?_
      refine wp_iload_n dX4_readWord_50 rfl ?_
      refine wp_is1 dX4_readWord_51 SX4_wordOf lX4_47 (rq0 rfl rfl) (Nat.le_of_ble_eq_true rfl) (C_wordOf hk ?_)
      dsimp only [pushR]
      refine wp_iload_n dX4_readWord_54 rfl ?_
      refine wp_iv2 dX4_readWord_55 VX4_stands lX4_51 h14 (rq0 rfl rfl) (Nat.le_of_ble_eq_true rfl) (C_stands h14 h15 hi hk hel hR (fun st => ?_) (fun st => ?_))
      · dsimp only [pushR]
        refine wp_if_eq 68 dX4_readWord_58 rfl ⟨by omega, by omega⟩ (fun c58 => absurd c58 (by omega)) (fun c58 => ?_)
        refine wp_aload_n dX4_readWord_61 rfl ?_
        refine wp_iload_n dX4_readWord_62 rfl ?_
        refine wp_putv (fs' := [vR 15, vI ln, vI e]) dX4_readWord_63 (pX4_24 rfl) h14 (Nat.le_of_ble_eq_true rfl) (fitF_int _) rfl ?_
        refine wp_iload_n dX4_readWord_66 rfl ?_
        exact wp_iret dX4_readWord_67 rfl (by first | (exfalso; omega) | exact hQ1 k hk st)
      · dsimp only [pushR]
        refine wp_if_eq 68 dX4_readWord_58 rfl ⟨by omega, by omega⟩ (fun c58 => ?_) (fun c58 => absurd c58 (by omega))
        refine wp_iinc (L' := [some (vR 14), some (vI e), some (vI ((k : Int) + 1))]) dX4_readWord_68 rfl rfl ?_
        refine wp_goto 43 dX4_readWord_71 rfl ?_
        exact ih (k + 1) (by omega) (fun j hj => by rcases (by omega : j < k ∨ j = k) with e | e; exact q2 j e; rw [e]; exact st)
set_option maxHeartbeats 1000000 in
theorem lp_we (h14 : h[14]? = some (oO 4 [vR 15, vI ln, vI i])) (h15 : h[15]? = some (oI 160 T)) (hi : 0 ≤ i ∧ i ≤ ln ∧ ln ≤ 160) (hR : ∀ j, r32 (T j)) : ∀ (m : Nat) (z : Int), z + m = ln → i ≤ z → Wp X kX4_readWord 41 [some (vR 14), some (vI (weL T m z)), none] [] h b Q → Wp X kX4_readWord 5 [some (vR 14), some (vI z), none] [] h b Q := by
  intro m
  induction m with
  | zero =>
    intro z q1 q2 hQ
    refine wp_iload_n dX4_readWord_5 rfl ?_
    refine wp_aload_n dX4_readWord_6 rfl ?_
    refine wp_getf dX4_readWord_7 fX4_15 h14 rfl ?_
    refine wp_icmp_ge 41 dX4_readWord_10 rfl (by first | assumption | exact hR _ | (unfold r32; omega)) (by first | assumption | exact hR _ | (unfold r32; omega)) (fun c10 => ?_) (fun c10 => ?_)
    · exact hQ
    · exfalso; omega
  | succ m ih =>
    intro z q1 q2 hQ
    unfold weL at hQ
    refine wp_iload_n dX4_readWord_5 rfl ?_
    refine wp_aload_n dX4_readWord_6 rfl ?_
    refine wp_getf dX4_readWord_7 fX4_15 h14 rfl ?_
    refine wp_icmp_ge 41 dX4_readWord_10 rfl (by first | assumption | exact hR _ | (unfold r32; omega)) (by first | assumption | exact hR _ | (unfold r32; omega)) (fun c10 => ?_) (fun c10 => ?_)
    · (repeat' split at hQ) <;> first | (exfalso; omega) | exact hQ
    · refine wp_aload_n dX4_readWord_13 rfl ?_
      refine wp_getf dX4_readWord_14 fX4_9 h14 rfl ?_
      refine wp_iload_n dX4_readWord_17 rfl ?_
      refine wp_iav (v := T z) dX4_readWord_18 h15 (by decide) (by omega) rfl ?_
      refine wp_bipush dX4_readWord_19 rfl ?_
      refine wp_icmp_lt 41 dX4_readWord_21 rfl (by first | assumption | exact hR _ | (unfold r32; omega)) ⟨by omega, by omega⟩ (fun c21 => ?_) (fun c21 => ?_)
      · (repeat' split at hQ) <;> first | (exfalso; omega) | exact hQ
      · refine wp_aload_n dX4_readWord_24 rfl ?_
        refine wp_getf dX4_readWord_25 fX4_9 h14 rfl ?_
        refine wp_iload_n dX4_readWord_28 rfl ?_
        refine wp_iav (v := T z) dX4_readWord_29 h15 (by decide) (by omega) rfl ?_
        refine wp_bipush dX4_readWord_30 rfl ?_
        refine wp_icmp_gt 41 dX4_readWord_32 rfl (by first | assumption | exact hR _ | (unfold r32; omega)) ⟨by omega, by omega⟩ (fun c32 => ?_) (fun c32 => ?_)
        · (repeat' split at hQ) <;> first | (exfalso; omega) | exact hQ
        · refine wp_iinc (L' := [some (vR 14), some (vI (z + 1)), none]) dX4_readWord_35 rfl rfl ?_
          refine wp_goto 5 dX4_readWord_38 rfl ?_
          rw [if_pos (by omega), if_pos (by omega)] at hQ
          exact ih (z + 1) (by omega) (by omega) hQ
theorem wE_b (hi : 0 ≤ i ∧ i ≤ ln ∧ ln ≤ 160) : i ≤ wE T ln i ∧ wE T ln i ≤ ln := by
  have := weL_b (T := T) (ln - i).toNat i
  unfold wE
  omega
theorem C_readWord (h14 : h[14]? = some (oO 4 [vR 15, vI ln, vI i])) (h15 : h[15]? = some (oI 160 T)) (hi : 0 ≤ i ∧ i ≤ ln ∧ ln ≤ 160) (hR : ∀ j, r32 (T j)) (hQ1 : ∀ k : Nat, k < 8 → STD T i (wE T ln i) k → Q (some (vI (k : Int))) (h.set 14 (oO 4 [vR 15, vI ln, vI (wE T ln i)]))) (hQ0 : (∀ k : Nat, k < 8 → ¬ STD T i (wE T ln i) k) → Q (some (vI (-1))) h) : Cl X kX4_readWord [vR 14] h Q := by
  refine cl_of rfl (Nat.le_of_ble_eq_true rfl) rfl ?_
  have wb := wE_b (T := T) hi
  refine wp_aload_n dX4_readWord_0 rfl ?_
  refine wp_getf dX4_readWord_1 fX4_24 h14 rfl ?_
  refine wp_istore_n (L' := [some (vR 14), some (vI i), none]) dX4_readWord_4 (by decide) rfl ?_
  refine lp_we h14 h15 hi hR (ln - i).toNat i (by omega) (by omega) ?_
  refine wp_iconst dX4_readWord_41 ?_
  refine wp_istore_n (L' := [some (vR 14), some (vI (weL T (ln - i).toNat i)), some (vI 0)]) dX4_readWord_42 (by decide) rfl ?_
  exact lp_wk h14 h15 hi wb hR hQ1 hQ0 8 0 (by omega) (fun j hj => by omega)
end WE
