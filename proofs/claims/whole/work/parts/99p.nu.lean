/-! reading a figure, both faces -/
def fgL (T : Int → Int) (ln : Int) : Nat → Int → Int → Int × Int
  | 0, i, v => (i, v)
  | m + 1, i, v => if i < ln then if 48 ≤ T i then if T i ≤ 57 then fgL T ln m (i + 1) (v * 10 + T i - 48) else (i, v) else (i, v) else (i, v)
def nmE (T : Int → Int) (ln i : Int) : Int := (fgL T ln 3 (i + 1) 0).1
def nmV (T : Int → Int) (ln i : Int) : Int := (fgL T ln 3 (i + 1) 0).2
abbrev nmOK (T : Int → Int) (ln i lo hi : Int) : Prop := (i < ln ∧ T i = 32) ∧ nmE T ln i ≠ i + 1 ∧ lo ≤ nmV T ln i ∧ nmV T ln i ≤ hi
def nmX (T : Int → Int) (ln i : Int) : Int := if i < ln ∧ T i = 32 then i + 1 else i
section NU
variable {X : XS} {h : AH} {Q : Option AV → AH → Prop} {T : Int → Int} {ln dn km ft ac mn om fw mo un ik : Int} {c14 c51 : AC} {b : Nat × Nat}
theorem fgL_b : ∀ (m : Nat) (i v : Int), i ≤ ln → 0 ≤ v → (m = 3 ∧ v = 0 ∨ m = 2 ∧ v ≤ 9 ∨ m = 1 ∧ v ≤ 99 ∨ m = 0 ∧ v ≤ 999) → (i ≤ (fgL T ln m i v).1 ∧ (fgL T ln m i v).1 ≤ ln) ∧ 0 ≤ (fgL T ln m i v).2 ∧ (fgL T ln m i v).2 ≤ 999 := by
  intro m
  induction m with
  | zero => intro i v h1 h2 h3; unfold fgL; dsimp only; omega
  | succ m ih =>
    intro i v h1 h2 h3
    unfold fgL
    split
    · split
      · split
        · have := ih (i + 1) (v * 10 + T i - 48) (by omega) (by omega) (by omega)
          omega
        · dsimp only; omega
      · dsimp only; omega
    · dsimp only; omega
theorem nm_b {i : Int} (h : i < ln) : (i + 1 ≤ nmE T ln i ∧ nmE T ln i ≤ ln) ∧ 0 ≤ nmV T ln i ∧ nmV T ln i ≤ 999 := fgL_b 3 (i + 1) 0 (by omega) (by omega) (Or.inl ⟨rfl, rfl⟩)
set_option maxHeartbeats 1000000 in
theorem lp_rn {lo hi bg : Int} (h14 : h[14]? = some c14) (h15 : h[15]? = some (oI 160 T)) (hT : ∀ j, 0 ≤ T j ∧ T j < 256) (hl : ln ≤ 160) (h0 : 0 ≤ bg) : ∀ (m : Nat) (a v : Int), bg + 3 = a + m → a ≤ ln → 0 ≤ v → (m = 3 ∧ v = 0 ∨ m = 2 ∧ v ≤ 9 ∨ m = 1 ∧ v ≤ 99 ∨ m = 0 ∧ v ≤ 999) → Wp X kX4_readNumber 127 [some (vR 14), some (vI lo), some (vI hi), some (vI bg), some (vI (fgL T ln m a v).2)] [] (h.set 14 (oO 4 [vR 15, vI ln, vI ((fgL T ln m a v).1)])) b Q → Wp X kX4_readNumber 45 [some (vR 14), some (vI lo), some (vI hi), some (vI bg), some (vI v)] [] (h.set 14 (oO 4 [vR 15, vI ln, vI a])) b Q := by
  intro m
  induction m with
  | zero =>
    intro a v q1 q2 q3 q4 hQ
    refine wp_aload_n dX4_readNumber_45 rfl ?_
    refine wp_getf dX4_readNumber_46 fX4_24 (gs_eq (gs_lt h14)) rfl ?_
    refine wp_aload_n dX4_readNumber_49 rfl ?_
    refine wp_getf dX4_readNumber_50 fX4_15 (gs_eq (gs_lt h14)) rfl ?_
    refine wp_icmp_ge 127 dX4_readNumber_53 rfl (by first | assumption | (have := hT a; unfold r32; omega) | (unfold r32; omega)) (by first | assumption | (have := hT a; unfold r32; omega) | (unfold r32; omega)) (fun c53 => ?_) (fun c53 => ?_)
    · exact hQ
    · refine wp_aload_n dX4_readNumber_56 rfl ?_
      refine wp_getf dX4_readNumber_57 fX4_24 (gs_eq (gs_lt h14)) rfl ?_
      refine wp_iload_n dX4_readNumber_60 rfl ?_
      refine wp_isub dX4_readNumber_61 ?_
      refine wp_iconst dX4_readNumber_62 ?_
      refine wp_icmp_ge 127 dX4_readNumber_63 rfl (by first | assumption | (have := hT a; unfold r32; omega) | (unfold r32; omega)) ⟨by omega, by omega⟩ (fun c63 => ?_) (fun c63 => ?_)
      · exact hQ
      · exfalso; omega
  | succ m ih =>
    intro a v q1 q2 q3 q4 hQ
    have ta := hT a
    unfold fgL at hQ
    refine wp_aload_n dX4_readNumber_45 rfl ?_
    refine wp_getf dX4_readNumber_46 fX4_24 (gs_eq (gs_lt h14)) rfl ?_
    refine wp_aload_n dX4_readNumber_49 rfl ?_
    refine wp_getf dX4_readNumber_50 fX4_15 (gs_eq (gs_lt h14)) rfl ?_
    refine wp_icmp_ge 127 dX4_readNumber_53 rfl (by first | assumption | (have := hT a; unfold r32; omega) | (unfold r32; omega)) (by first | assumption | (have := hT a; unfold r32; omega) | (unfold r32; omega)) (fun c53 => ?_) (fun c53 => ?_)
    · (repeat' split at hQ) <;> first | (exfalso; omega) | exact hQ
    · refine wp_aload_n dX4_readNumber_56 rfl ?_
      refine wp_getf dX4_readNumber_57 fX4_24 (gs_eq (gs_lt h14)) rfl ?_
      refine wp_iload_n dX4_readNumber_60 rfl ?_
      refine wp_isub dX4_readNumber_61 ?_
      refine wp_iconst dX4_readNumber_62 ?_
      refine wp_icmp_ge 127 dX4_readNumber_63 rfl (by first | assumption | (have := hT a; unfold r32; omega) | (unfold r32; omega)) ⟨by omega, by omega⟩ (fun c63 => ?_) (fun c63 => ?_)
      · (repeat' split at hQ) <;> first | (exfalso; omega) | exact hQ
      · refine wp_aload_n dX4_readNumber_66 rfl ?_
        refine wp_getf dX4_readNumber_67 fX4_9 (gs_eq (gs_lt h14)) rfl ?_
        refine wp_aload_n dX4_readNumber_70 rfl ?_
        refine wp_getf dX4_readNumber_71 fX4_24 (gs_eq (gs_lt h14)) rfl ?_
        refine wp_iav (v := T a) dX4_readNumber_74 (gs_ne (by decide) h15) (by decide) (by omega) rfl ?_
        refine wp_bipush dX4_readNumber_75 rfl ?_
        refine wp_icmp_lt 127 dX4_readNumber_77 rfl (by first | assumption | (have := hT a; unfold r32; omega) | (unfold r32; omega)) ⟨by omega, by omega⟩ (fun c77 => ?_) (fun c77 => ?_)
        · (repeat' split at hQ) <;> first | (exfalso; omega) | exact hQ
        · refine wp_aload_n dX4_readNumber_80 rfl ?_
          refine wp_getf dX4_readNumber_81 fX4_9 (gs_eq (gs_lt h14)) rfl ?_
          refine wp_aload_n dX4_readNumber_84 rfl ?_
          refine wp_getf dX4_readNumber_85 fX4_24 (gs_eq (gs_lt h14)) rfl ?_
          refine wp_iav (v := T a) dX4_readNumber_88 (gs_ne (by decide) h15) (by decide) (by omega) rfl ?_
          refine wp_bipush dX4_readNumber_89 rfl ?_
          refine wp_icmp_gt 127 dX4_readNumber_91 rfl (by first | assumption | (have := hT a; unfold r32; omega) | (unfold r32; omega)) ⟨by omega, by omega⟩ (fun c91 => ?_) (fun c91 => ?_)
          · (repeat' split at hQ) <;> first | (exfalso; omega) | exact hQ
          · refine wp_iload dX4_readNumber_94 rfl ?_
            refine wp_bipush dX4_readNumber_96 rfl ?_
            refine wp_imul dX4_readNumber_98 ?_
            refine wp_aload_n dX4_readNumber_99 rfl ?_
            refine wp_getf dX4_readNumber_100 fX4_9 (gs_eq (gs_lt h14)) rfl ?_
            refine wp_aload_n dX4_readNumber_103 rfl ?_
            refine wp_getf dX4_readNumber_104 fX4_24 (gs_eq (gs_lt h14)) rfl ?_
            refine wp_iav (v := T a) dX4_readNumber_107 (gs_ne (by decide) h15) (by decide) (by omega) rfl ?_
            refine wp_iadd dX4_readNumber_108 ?_
            refine wp_bipush dX4_readNumber_109 rfl ?_
            refine wp_isub dX4_readNumber_111 ?_
            refine wp_istore (L' := [some (vR 14), some (vI lo), some (vI hi), some (vI bg), some (vI (v * 10 + T a - 48))]) dX4_readNumber_112 (by decide) rfl ?_
            refine wp_aload_n dX4_readNumber_114 rfl ?_
            refine wp_dup dX4_readNumber_115 rfl ?_
            refine wp_getf dX4_readNumber_116 fX4_24 (gs_eq (gs_lt h14)) rfl ?_
            refine wp_iconst dX4_readNumber_119 ?_
            refine wp_iadd dX4_readNumber_120 ?_
            refine wp_putv (fs' := [vR 15, vI ln, vI (a + 1)]) dX4_readNumber_121 (pX4_24 rfl) (gs_eq (gs_lt h14)) (Nat.le_of_ble_eq_true rfl) (fitF_int _) rfl ?_
            refine wp_goto 45 dX4_readNumber_124 rfl ?_
            rw [List.set_set]
            rw [if_pos (by omega), if_pos (by omega), if_pos (by omega)] at hQ
            exact ih (a + 1) _ (by omega) (by omega) (by omega) (by omega) hQ
set_option maxHeartbeats 1000000 in
theorem C_readNumber {lo hi a : Int} (h14 : h[14]? = some c14) (h15 : h[15]? = some (oI 160 T)) (hT : ∀ j, 0 ≤ T j ∧ T j < 256) (hl : ln ≤ 160) (ha : 0 ≤ a ∧ a ≤ ln) (rlo : r32 lo) (rhi : r32 hi) (hQ : nmOK T ln a lo hi → Q (some (vI (nmV T ln a))) (h.set 14 (oO 4 [vR 15, vI ln, vI (nmE T ln a)]))) (hQ0 : ¬ nmOK T ln a lo hi → Q (some (vI (-1))) (h.set 14 (oO 4 [vR 15, vI ln, vI (nmX T ln a)]))) : Cl X kX4_readNumber [vR 14, vI lo, vI hi] (h.set 14 (oO 4 [vR 15, vI ln, vI a])) Q := by
  refine cl_of rfl (Nat.le_of_ble_eq_true rfl) rfl ?_
  have ta := hT a
  unfold nmOK nmX at *
  refine wp_aload_n dX4_readNumber_0 rfl ?_
  refine wp_getf dX4_readNumber_1 fX4_24 (gs_eq (gs_lt h14)) rfl ?_
  refine wp_aload_n dX4_readNumber_4 rfl ?_
  refine wp_getf dX4_readNumber_5 fX4_15 (gs_eq (gs_lt h14)) rfl ?_
  refine wp_icmp_ge 25 dX4_readNumber_8 rfl (by first | assumption | (have := hT a; unfold r32; omega) | (unfold r32; omega)) (by first | assumption | (have := hT a; unfold r32; omega) | (unfold r32; omega)) (fun c8 => ?_) (fun c8 => ?_)
  · refine wp_iconst dX4_readNumber_25 ?_
    exact wp_iret dX4_readNumber_26 rfl (by rw [if_neg (by omega)] at hQ0; exact hQ0 (by omega))
  · refine wp_aload_n dX4_readNumber_11 rfl ?_
    refine wp_getf dX4_readNumber_12 fX4_9 (gs_eq (gs_lt h14)) rfl ?_
    refine wp_aload_n dX4_readNumber_15 rfl ?_
    refine wp_getf dX4_readNumber_16 fX4_24 (gs_eq (gs_lt h14)) rfl ?_
    refine wp_iav (v := T a) dX4_readNumber_19 (gs_ne (by decide) h15) (by decide) (by omega) rfl ?_
    refine wp_bipush dX4_readNumber_20 rfl ?_
    refine wp_icmp_eq 27 dX4_readNumber_22 rfl (by first | assumption | (have := hT a; unfold r32; omega) | (unfold r32; omega)) ⟨by omega, by omega⟩ (fun c22 => ?_) (fun c22 => ?_)
    · refine wp_aload_n dX4_readNumber_27 rfl ?_
      refine wp_dup dX4_readNumber_28 rfl ?_
      refine wp_getf dX4_readNumber_29 fX4_24 (gs_eq (gs_lt h14)) rfl ?_
      refine wp_iconst dX4_readNumber_32 ?_
      refine wp_iadd dX4_readNumber_33 ?_
      refine wp_putv (fs' := [vR 15, vI ln, vI (a + 1)]) dX4_readNumber_34 (pX4_24 rfl) (gs_eq (gs_lt h14)) (Nat.le_of_ble_eq_true rfl) (fitF_int _) rfl ?_
      refine wp_aload_n dX4_readNumber_37 rfl ?_
      refine wp_getf dX4_readNumber_38 fX4_24 (gs_eq (gs_l (gs_lt h14))) rfl ?_
      refine wp_istore_n (L' := [some (vR 14), some (vI lo), some (vI hi), some (vI (a + 1)), none]) dX4_readNumber_41 (by decide) rfl ?_
      refine wp_iconst dX4_readNumber_42 ?_
      refine wp_istore (L' := [some (vR 14), some (vI lo), some (vI hi), some (vI (a + 1)), some (vI 0)]) dX4_readNumber_43 (by decide) rfl ?_
      rw [List.set_set]
      have nb := nm_b (T := T) (ln := ln) (i := a) (by omega)
      refine lp_rn h14 h15 hT hl (by omega) 3 (a + 1) 0 (by omega) (by omega) (by omega) (Or.inl ⟨rfl, rfl⟩) ?_
      have e1 : (fgL T ln 3 (a + 1) 0).1 = nmE T ln a := rfl
      have e2 : (fgL T ln 3 (a + 1) 0).2 = nmV T ln a := rfl
      rw [e1, e2]
      have er : r32 (nmE T ln a) := by unfold r32; omega
      refine wp_aload_n dX4_readNumber_127 rfl ?_
      refine wp_getf dX4_readNumber_128 fX4_24 (gs_eq (gs_lt h14)) rfl ?_
      refine wp_iload_n dX4_readNumber_131 rfl ?_
      refine wp_icmp_eq 147 dX4_readNumber_132 rfl (by first | assumption | (have := hT a; unfold r32; omega) | (unfold r32; omega)) (by first | assumption | (have := hT a; unfold r32; omega) | (unfold r32; omega)) (fun c132 => ?_) (fun c132 => ?_)
      · refine wp_aload_n dX4_readNumber_147 rfl ?_
        refine wp_iload_n dX4_readNumber_148 rfl ?_
        refine wp_putv (fs' := [vR 15, vI ln, vI (a + 1)]) dX4_readNumber_149 (pX4_24 rfl) (gs_eq (gs_lt h14)) (Nat.le_of_ble_eq_true rfl) (fitF_int _) rfl ?_
        refine wp_iconst dX4_readNumber_152 ?_
        exact wp_iret dX4_readNumber_153 rfl (by rw [List.set_set]; rw [if_pos (by omega)] at hQ0; exact hQ0 (by omega))
      · refine wp_iload dX4_readNumber_135 rfl ?_
        refine wp_iload_n dX4_readNumber_137 rfl ?_
        refine wp_icmp_lt 147 dX4_readNumber_138 rfl (by first | assumption | (have := hT a; unfold r32; omega) | (unfold r32; omega)) (by first | assumption | (have := hT a; unfold r32; omega) | (unfold r32; omega)) (fun c138 => ?_) (fun c138 => ?_)
        · refine wp_aload_n dX4_readNumber_147 rfl ?_
          refine wp_iload_n dX4_readNumber_148 rfl ?_
          refine wp_putv (fs' := [vR 15, vI ln, vI (a + 1)]) dX4_readNumber_149 (pX4_24 rfl) (gs_eq (gs_lt h14)) (Nat.le_of_ble_eq_true rfl) (fitF_int _) rfl ?_
          refine wp_iconst dX4_readNumber_152 ?_
          exact wp_iret dX4_readNumber_153 rfl (by rw [List.set_set]; rw [if_pos (by omega)] at hQ0; exact hQ0 (by omega))
        · refine wp_iload dX4_readNumber_141 rfl ?_
          refine wp_iload_n dX4_readNumber_143 rfl ?_
          refine wp_icmp_le 154 dX4_readNumber_144 rfl (by first | assumption | (have := hT a; unfold r32; omega) | (unfold r32; omega)) (by first | assumption | (have := hT a; unfold r32; omega) | (unfold r32; omega)) (fun c144 => ?_) (fun c144 => ?_)
          · refine wp_iload dX4_readNumber_154 rfl ?_
            exact wp_iret dX4_readNumber_156 rfl (hQ (by omega))
          · refine wp_aload_n dX4_readNumber_147 rfl ?_
            refine wp_iload_n dX4_readNumber_148 rfl ?_
            refine wp_putv (fs' := [vR 15, vI ln, vI (a + 1)]) dX4_readNumber_149 (pX4_24 rfl) (gs_eq (gs_lt h14)) (Nat.le_of_ble_eq_true rfl) (fitF_int _) rfl ?_
            refine wp_iconst dX4_readNumber_152 ?_
            exact wp_iret dX4_readNumber_153 rfl (by rw [List.set_set]; rw [if_pos (by omega)] at hQ0; exact hQ0 (by omega))
    · refine wp_iconst dX4_readNumber_25 ?_
      exact wp_iret dX4_readNumber_26 rfl (by rw [if_neg (by omega)] at hQ0; exact hQ0 (by omega))
theorem C_wrong {a x : Int} (m51 : h[51]? = some c51) (rf : r32 ft) (hQ : Q none (h.set 51 (oO 7 (mF dn km ln a (if ft < 0 then x else ft) ac mn om fw mo un ik)))) : Cl X kX7_wrong [vR 51, vI x] (h.set 51 (oO 7 (mF dn km ln a ft ac mn om fw mo un ik))) Q := by
  refine cl_of rfl (Nat.le_of_ble_eq_true rfl) rfl ?_
  refine wp_aload_n dX7_wrong_0 rfl ?_
  refine wp_aload_n dX7_wrong_1 rfl ?_
  refine wp_getf dX7_wrong_2 fX7_228 (gs_eq (gs_lt m51)) rfl ?_
  refine wp_if_ge 12 dX7_wrong_5 rfl (by first | assumption | (unfold r32; omega)) (fun c5 => ?_) (fun c5 => ?_)
  · refine wp_aload_n dX7_wrong_12 rfl ?_
    refine wp_getf dX7_wrong_13 fX7_228 (gs_eq (gs_lt m51)) rfl ?_
    refine wp_putv (fs' := mF dn km ln a ft ac mn om fw mo un ik) dX7_wrong_16 (pX7_228 rfl) (gs_eq (gs_lt m51)) (Nat.le_of_ble_eq_true rfl) (fitF_int _) rfl ?_
    exact wp_ret dX7_wrong_19 rfl (by rw [List.set_set]; (repeat' split at hQ) <;> first | (exfalso; omega) | exact hQ)
  · refine wp_iload_n dX7_wrong_8 rfl ?_
    refine wp_goto 16 dX7_wrong_9 rfl ?_
    refine wp_putv (fs' := mF dn km ln a x ac mn om fw mo un ik) dX7_wrong_16 (pX7_228 rfl) (gs_eq (gs_lt m51)) (Nat.le_of_ble_eq_true rfl) (fitF_int _) rfl ?_
    exact wp_ret dX7_wrong_19 rfl (by rw [List.set_set]; (repeat' split at hQ) <;> first | (exfalso; omega) | exact hQ)
theorem C_isFigure {a : Int} (m51 : h[51]? = some c51) (m54 : h[54]? = some (oI 160 T)) (hT : ∀ j, 0 ≤ T j ∧ T j < 256) (hl : ln ≤ 160) (ha : 0 ≤ a ∧ a ≤ ln) (hQ1 : a < ln ∧ 48 ≤ T a ∧ T a ≤ 57 → Q (some (vI 1)) (h.set 51 (oO 7 (mF dn km ln a ft ac mn om fw mo un ik)))) (hQ0 : ¬ (a < ln ∧ 48 ≤ T a ∧ T a ≤ 57) → Q (some (vI 0)) (h.set 51 (oO 7 (mF dn km ln a ft ac mn om fw mo un ik)))) : Cl X kX7_isFigure [vR 51] (h.set 51 (oO 7 (mF dn km ln a ft ac mn om fw mo un ik))) Q := by
  refine cl_of rfl (Nat.le_of_ble_eq_true rfl) rfl ?_
  have ta := hT a
  refine wp_aload_n dX7_isFigure_0 rfl ?_
  refine wp_getf dX7_isFigure_1 fX7_221 (gs_eq (gs_lt m51)) rfl ?_
  refine wp_aload_n dX7_isFigure_4 rfl ?_
  refine wp_getf dX7_isFigure_5 fX7_218 (gs_eq (gs_lt m51)) rfl ?_
  refine wp_icmp_ge 37 dX7_isFigure_8 rfl (by first | assumption | (have := hT a; unfold r32; omega) | (unfold r32; omega)) (by first | assumption | (have := hT a; unfold r32; omega) | (unfold r32; omega)) (fun c8 => ?_) (fun c8 => ?_)
  · refine wp_iconst dX7_isFigure_37 ?_
    exact wp_zret dX7_isFigure_38 rfl (Or.inl rfl) (hQ0 (by omega))
  · refine wp_aload_n dX7_isFigure_11 rfl ?_
    refine wp_getf dX7_isFigure_12 fX7_16 (gs_eq (gs_lt m51)) rfl ?_
    refine wp_aload_n dX7_isFigure_15 rfl ?_
    refine wp_getf dX7_isFigure_16 fX7_221 (gs_eq (gs_lt m51)) rfl ?_
    refine wp_iav (v := T a) dX7_isFigure_19 (gs_ne (by decide) m54) (by decide) (by omega) rfl ?_
    refine wp_i2l dX7_isFigure_20 (by first | assumption | (have := hT a; unfold r32; omega) | (unfold r32; omega)) ?_
    refine wp_ldc2 dX7_isFigure_21 cX7_224 ?_
    refine wp_ldc2 dX7_isFigure_24 cX7_226 ?_
    refine wp_is3 dX7_isFigure_27 SX7_in lX7_94 (rq0 rfl rfl) (Nat.le_of_ble_eq_true rfl) (C_in (by first | assumption | exact r64_of (hR _) | (unfold r64; omega)) (by first | assumption | exact r64_of (hR _) | (unfold r64; omega)) (by first | assumption | exact r64_of (hR _) | (unfold r64; omega)) ?_)
    dsimp only [pushR]
    refine wp_beq 37 dX7_isFigure_30 rfl (fun c30 => ?_) (fun c30 => ?_)
    · refine wp_iconst dX7_isFigure_37 ?_
      exact wp_zret dX7_isFigure_38 rfl (Or.inl rfl) (hQ0 (by omega))
    · refine wp_iconst dX7_isFigure_33 ?_
      refine wp_goto 38 dX7_isFigure_34 rfl ?_
      exact wp_zret dX7_isFigure_38 rfl (Or.inr rfl) (hQ1 (by omega))
set_option maxHeartbeats 1000000 in
theorem lp_rr {lo hi bg : Int} (m51 : h[51]? = some c51) (m54 : h[54]? = some (oI 160 T)) (hT : ∀ j, 0 ≤ T j ∧ T j < 256) (hl : ln ≤ 160) (h0 : 0 ≤ bg) : ∀ (m : Nat) (a v : Int), bg + 3 = a + m → a ≤ ln → 0 ≤ v → (m = 3 ∧ v = 0 ∨ m = 2 ∧ v ≤ 9 ∨ m = 1 ∧ v ≤ 99 ∨ m = 0 ∧ v ≤ 999) → Wp X kX7_number 112 [some (vR 51), some (vI lo), some (vI hi), some (vI bg), some (vI (fgL T ln m a v).2)] [] (h.set 51 (oO 7 (mF dn km ln ((fgL T ln m a v).1) ft ac mn om fw mo un ik))) b Q → Wp X kX7_number 62 [some (vR 51), some (vI lo), some (vI hi), some (vI bg), some (vI v)] [] (h.set 51 (oO 7 (mF dn km ln a ft ac mn om fw mo un ik))) b Q := by
  intro m
  induction m with
  | zero =>
    intro a v q1 q2 q3 q4 hQ
    refine wp_aload_n dX7_number_62 rfl ?_
    refine wp_getf dX7_number_63 fX7_221 (gs_eq (gs_lt m51)) rfl ?_
    refine wp_iload_n dX7_number_66 rfl ?_
    refine wp_iconst dX7_number_67 ?_
    refine wp_iadd dX7_number_68 ?_
    refine wp_icmp_ge 112 dX7_number_69 rfl (by first | assumption | (have := hT a; unfold r32; omega) | (unfold r32; omega)) (by first | assumption | (have := hT a; unfold r32; omega) | (unfold r32; omega)) (fun c69 => ?_) (fun c69 => ?_)
    · exact hQ
    · exfalso; omega
  | succ m ih =>
    intro a v q1 q2 q3 q4 hQ
    have ta := hT a
    unfold fgL at hQ
    refine wp_aload_n dX7_number_62 rfl ?_
    refine wp_getf dX7_number_63 fX7_221 (gs_eq (gs_lt m51)) rfl ?_
    refine wp_iload_n dX7_number_66 rfl ?_
    refine wp_iconst dX7_number_67 ?_
    refine wp_iadd dX7_number_68 ?_
    refine wp_icmp_ge 112 dX7_number_69 rfl (by first | assumption | (have := hT a; unfold r32; omega) | (unfold r32; omega)) (by first | assumption | (have := hT a; unfold r32; omega) | (unfold r32; omega)) (fun c69 => ?_) (fun c69 => ?_)
    · (repeat' split at hQ) <;> first | (exfalso; omega) | exact hQ
    · refine wp_aload_n dX7_number_72 rfl ?_
      refine wp_iv0 dX7_number_73 VX7_isFigure lX7_235 (gs_eq (gs_lt m51)) (rq0 rfl rfl) (Nat.le_of_ble_eq_true rfl) (C_isFigure m51 m54 hT hl (by omega) (fun fg => ?_) (fun fg => ?_))
      · dsimp only [pushR]
        refine wp_if_eq 112 dX7_number_76 rfl ⟨by omega, by omega⟩ (fun c76 => absurd c76 (by omega)) (fun c76 => ?_)
        refine wp_bipush dX7_number_79 rfl ?_
        refine wp_iload dX7_number_81 rfl ?_
        refine wp_imul dX7_number_83 ?_
        refine wp_aload_n dX7_number_84 rfl ?_
        refine wp_getf dX7_number_85 fX7_16 (gs_eq (gs_lt m51)) rfl ?_
        refine wp_aload_n dX7_number_88 rfl ?_
        refine wp_getf dX7_number_89 fX7_221 (gs_eq (gs_lt m51)) rfl ?_
        refine wp_iav (v := T a) dX7_number_92 (gs_ne (by decide) m54) (by decide) (by omega) rfl ?_
        refine wp_iadd dX7_number_93 ?_
        refine wp_bipush dX7_number_94 rfl ?_
        refine wp_isub dX7_number_96 ?_
        refine wp_istore (L' := [some (vR 51), some (vI lo), some (vI hi), some (vI bg), some (vI (10 * v + T a - 48))]) dX7_number_97 (by decide) rfl ?_
        refine wp_aload_n dX7_number_99 rfl ?_
        refine wp_dup dX7_number_100 rfl ?_
        refine wp_getf dX7_number_101 fX7_221 (gs_eq (gs_lt m51)) rfl ?_
        refine wp_iconst dX7_number_104 ?_
        refine wp_iadd dX7_number_105 ?_
        refine wp_putv (fs' := mF dn km ln (a + 1) ft ac mn om fw mo un ik) dX7_number_106 (pX7_221 rfl) (gs_eq (gs_lt m51)) (Nat.le_of_ble_eq_true rfl) (fitF_int _) rfl ?_
        refine wp_goto 62 dX7_number_109 rfl ?_
        rw [List.set_set]
        rw [if_pos (by omega), if_pos (by omega), if_pos (by omega)] at hQ
        rw [show 10 * v + T a - 48 = v * 10 + T a - 48 by omega]
        exact ih (a + 1) _ (by omega) (by omega) (by omega) (by omega) hQ
      · dsimp only [pushR]
        refine wp_if_eq 112 dX7_number_76 rfl ⟨by omega, by omega⟩ (fun c76 => ?_) (fun c76 => absurd c76 (by omega))
        (repeat' split at hQ) <;> first | (exfalso; omega) | exact hQ
set_option maxHeartbeats 1000000 in
theorem C_rnumber {lo hi a : Int} (m51 : h[51]? = some c51) (m54 : h[54]? = some (oI 160 T)) (hT : ∀ j, 0 ≤ T j ∧ T j < 256) (hl : ln ≤ 160) (ha : 0 ≤ a ∧ a ≤ ln) (rlo : r32 lo) (rhi : r32 hi) (rf : r32 ft) (hQz : 0 ≤ ft → Q (some (vI 0)) (h.set 51 (oO 7 (mF dn km ln a ft ac mn om fw mo un ik)))) (hQ : ft < 0 → nmOK T ln a lo hi → Q (some (vI (nmV T ln a))) (h.set 51 (oO 7 (mF dn km ln (nmE T ln a) ft ac mn om fw mo un ik)))) (hQ0 : ft < 0 → ¬ nmOK T ln a lo hi → ∀ v a', 0 ≤ a' ∧ a' ≤ ln → Q (some (vI v)) (h.set 51 (oO 7 (mF dn km ln a' (nmX T ln a) ac mn om fw mo un ik)))) : Cl X kX7_number [vR 51, vI lo, vI hi] (h.set 51 (oO 7 (mF dn km ln a ft ac mn om fw mo un ik))) Q := by
  refine cl_of rfl (Nat.le_of_ble_eq_true rfl) rfl ?_
  have ta := hT a
  unfold nmOK nmX at *
  refine wp_aload_n dX7_number_0 rfl ?_
  refine wp_getf dX7_number_1 fX7_228 (gs_eq (gs_lt m51)) rfl ?_
  refine wp_if_lt 9 dX7_number_4 rfl (by first | assumption | (have := hT a; unfold r32; omega) | (unfold r32; omega)) (fun c4 => ?_) (fun c4 => ?_)
  · refine wp_aload_n dX7_number_9 rfl ?_
    refine wp_getf dX7_number_10 fX7_221 (gs_eq (gs_lt m51)) rfl ?_
    refine wp_aload_n dX7_number_13 rfl ?_
    refine wp_getf dX7_number_14 fX7_218 (gs_eq (gs_lt m51)) rfl ?_
    refine wp_icmp_eq 34 dX7_number_17 rfl (by first | assumption | (have := hT a; unfold r32; omega) | (unfold r32; omega)) (by first | assumption | (have := hT a; unfold r32; omega) | (unfold r32; omega)) (fun c17 => ?_) (fun c17 => ?_)
    · refine wp_aload_n dX7_number_34 rfl ?_
      refine wp_aload_n dX7_number_35 rfl ?_
      refine wp_getf dX7_number_36 fX7_221 (gs_eq (gs_lt m51)) rfl ?_
      refine wp_iv1 dX7_number_39 VX7_wrong lX7_231 (gs_eq (gs_lt m51)) (rq0 rfl rfl) (Nat.le_of_ble_eq_true rfl) (C_wrong m51 rf ?_)
      dsimp only [pushR]
      rw [if_pos (by omega)]
      refine wp_iconst dX7_number_42 ?_
      exact wp_iret dX7_number_43 rfl (by rw [if_neg (by omega)] at hQ0; exact hQ0 (by omega) (by omega) _ _ (by omega))
    · refine wp_aload_n dX7_number_20 rfl ?_
      refine wp_getf dX7_number_21 fX7_16 (gs_eq (gs_lt m51)) rfl ?_
      refine wp_aload_n dX7_number_24 rfl ?_
      refine wp_getf dX7_number_25 fX7_221 (gs_eq (gs_lt m51)) rfl ?_
      refine wp_iav (v := T a) dX7_number_28 (gs_ne (by decide) m54) (by decide) (by omega) rfl ?_
      refine wp_bipush dX7_number_29 rfl ?_
      refine wp_icmp_eq 44 dX7_number_31 rfl (by first | assumption | (have := hT a; unfold r32; omega) | (unfold r32; omega)) ⟨by omega, by omega⟩ (fun c31 => ?_) (fun c31 => ?_)
      · refine wp_aload_n dX7_number_44 rfl ?_
        refine wp_dup dX7_number_45 rfl ?_
        refine wp_getf dX7_number_46 fX7_221 (gs_eq (gs_lt m51)) rfl ?_
        refine wp_iconst dX7_number_49 ?_
        refine wp_iadd dX7_number_50 ?_
        refine wp_putv (fs' := mF dn km ln (a + 1) ft ac mn om fw mo un ik) dX7_number_51 (pX7_221 rfl) (gs_eq (gs_lt m51)) (Nat.le_of_ble_eq_true rfl) (fitF_int _) rfl ?_
        refine wp_aload_n dX7_number_54 rfl ?_
        refine wp_getf dX7_number_55 fX7_221 (gs_eq (gs_l (gs_lt m51))) rfl ?_
        refine wp_istore_n (L' := [some (vR 51), some (vI lo), some (vI hi), some (vI (a + 1)), none]) dX7_number_58 (by decide) rfl ?_
        refine wp_iconst dX7_number_59 ?_
        refine wp_istore (L' := [some (vR 51), some (vI lo), some (vI hi), some (vI (a + 1)), some (vI 0)]) dX7_number_60 (by decide) rfl ?_
        rw [List.set_set]
        have nb := nm_b (T := T) (ln := ln) (i := a) (by omega)
        refine lp_rr m51 m54 hT hl (by omega) 3 (a + 1) 0 (by omega) (by omega) (by omega) (Or.inl ⟨rfl, rfl⟩) ?_
        have e1 : (fgL T ln 3 (a + 1) 0).1 = nmE T ln a := rfl
        have e2 : (fgL T ln 3 (a + 1) 0).2 = nmV T ln a := rfl
        rw [e1, e2]
        refine wp_aload_n dX7_number_112 rfl ?_
        refine wp_getf dX7_number_113 fX7_221 (gs_eq (gs_lt m51)) rfl ?_
        refine wp_iload_n dX7_number_116 rfl ?_
        refine wp_icmp_eq 133 dX7_number_117 rfl (by first | assumption | (have := hT a; unfold r32; omega) | (unfold r32; omega)) (by first | assumption | (have := hT a; unfold r32; omega) | (unfold r32; omega)) (fun c117 => ?_) (fun c117 => ?_)
        · refine wp_aload_n dX7_number_133 rfl ?_
          refine wp_iload_n dX7_number_134 rfl ?_
          refine wp_iv1 dX7_number_135 VX7_wrong lX7_231 (gs_eq (gs_lt m51)) (rq0 rfl rfl) (Nat.le_of_ble_eq_true rfl) (C_wrong m51 rf ?_)
          dsimp only [pushR]
          rw [if_pos (by omega)]
          refine wp_iload dX7_number_138 rfl ?_
          exact wp_iret dX7_number_140 rfl (by rw [if_pos (by omega)] at hQ0; exact hQ0 (by omega) (by omega) _ _ (by omega))
        · refine wp_iload dX7_number_120 rfl ?_
          refine wp_i2l dX7_number_122 (by first | assumption | (have := hT a; unfold r32; omega) | (unfold r32; omega)) ?_
          refine wp_iload_n dX7_number_123 rfl ?_
          refine wp_i2l dX7_number_124 (by first | assumption | (have := hT a; unfold r32; omega) | (unfold r32; omega)) ?_
          refine wp_iload_n dX7_number_125 rfl ?_
          refine wp_i2l dX7_number_126 (by first | assumption | (have := hT a; unfold r32; omega) | (unfold r32; omega)) ?_
          refine wp_is3 dX7_number_127 SX7_in lX7_94 (rq0 rfl rfl) (Nat.le_of_ble_eq_true rfl) (C_in (by first | assumption | exact r64_of (hR _) | (unfold r64; unfold r32 at rlo rhi; omega)) (by first | assumption | exact r64_of (hR _) | (unfold r64; unfold r32 at rlo rhi; omega)) (by first | assumption | exact r64_of (hR _) | (unfold r64; unfold r32 at rlo rhi; omega)) ?_)
          dsimp only [pushR]
          refine wp_bne 138 dX7_number_130 rfl (fun c130 => ?_) (fun c130 => ?_)
          · refine wp_iload dX7_number_138 rfl ?_
            exact wp_iret dX7_number_140 rfl (hQ (by omega) (by omega))
          · refine wp_aload_n dX7_number_133 rfl ?_
            refine wp_iload_n dX7_number_134 rfl ?_
            refine wp_iv1 dX7_number_135 VX7_wrong lX7_231 (gs_eq (gs_lt m51)) (rq0 rfl rfl) (Nat.le_of_ble_eq_true rfl) (C_wrong m51 rf ?_)
            dsimp only [pushR]
            rw [if_pos (by omega)]
            refine wp_iload dX7_number_138 rfl ?_
            exact wp_iret dX7_number_140 rfl (by rw [if_pos (by omega)] at hQ0; exact hQ0 (by omega) (by omega) _ _ (by omega))
      · refine wp_aload_n dX7_number_34 rfl ?_
        refine wp_aload_n dX7_number_35 rfl ?_
        refine wp_getf dX7_number_36 fX7_221 (gs_eq (gs_lt m51)) rfl ?_
        refine wp_iv1 dX7_number_39 VX7_wrong lX7_231 (gs_eq (gs_lt m51)) (rq0 rfl rfl) (Nat.le_of_ble_eq_true rfl) (C_wrong m51 rf ?_)
        dsimp only [pushR]
        rw [if_pos (by omega)]
        refine wp_iconst dX7_number_42 ?_
        exact wp_iret dX7_number_43 rfl (by rw [if_neg (by omega)] at hQ0; exact hQ0 (by omega) (by omega) _ _ (by omega))
  · refine wp_iconst dX7_number_7 ?_
    exact wp_iret dX7_number_8 rfl (hQz (by omega))
end NU
