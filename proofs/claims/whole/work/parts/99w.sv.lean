/-! storm, the class: run, the whole -/
def cStN (k tk : Int) (w f : Int → Int) := stR (cRnd k tk) 6 0 w f
def cStorm (k tk : Int) (w f : Int → Int) (i : Int) : Int := if i = 0 then (cStN k tk w f).1 else if i = 1 then wAl (cStN k tk w f).2.2 - wAl f else if i = 2 then cnt w - cnt (cStN k tk w f).2.1 else (cStN k tk w f).2.2 14 - f 14
section SV
variable {X : XS} {h : AH} {Q : Option AV → AH → Prop} {sp kp : AV} {tf Kp : Int → Int} {r0 l0 v0 f0 : Int} {b : Nat × Nat}
theorem bs_cnt {w : Int → Int} (h : b01 w) : bs w = 0 ↔ cnt w = 0 := by have q := h.x; unfold bs cnt; omega
set_option maxHeartbeats 2000000 in
theorem lp_run {x k tk la fa : Int} (h8 : h[8]? = some (oO 3 [vR 3, vI r0, vI l0, vI v0, vI f0])) (h3 : h[3]? = some (oO 5 [vR 4])) (h4 : h[4]? = some (oI 1060 tf)) (hk : 0 ≤ k ∧ k < 10) (ht : tk = 0 ∨ tk = 1) : ∀ (m : Nat) (n : Int) (w f g : Int → Int) (B : Int), n + m = 6 → 0 ≤ n → AK B f g → 1000 ≤ B → B + 18000 * m ≤ 8000000 → WB w → Wp X kX3_run 79 [some (vR 8), some (vI x), some (vI k), some (vI tk), some (vI la), some (vI fa), some (vI (bs (stR (cRnd k tk) m n w f).2.1))] [] ((h.set 8 (oO 3 [vR 3, vI ((stR (cRnd k tk) m n w f).1), vI l0, vI v0, vI f0])).set 4 (oI 1060 (stR (cRnd k tk) m n w f).2.2)) b Q → Wp X kX3_run 27 [some (vR 8), some (vI x), some (vI k), some (vI tk), some (vI la), some (vI fa), some (vI (bs w))] [] ((h.set 8 (oO 3 [vR 3, vI n, vI l0, vI v0, vI f0])).set 4 (oI 1060 f)) b Q := by
  intro m
  induction m with
  | zero =>
    intro n w f g B q1 q2 hA hB hBB hw hQ
    have wr := hw.r
    refine wp_iload dX3_run_27 rfl ?_
    refine wp_if_eq 79 dX3_run_29 rfl (by first | assumption | exact hR _ | (unfold r32; omega)) (fun c29 => ?_) (fun c29 => ?_)
    · exact hQ
    · refine wp_aload_n dX3_run_32 rfl ?_
      refine wp_getf dX3_run_33 fX3_25 (gs_ne (by decide) (gs_eq (gs_lt h8))) rfl ?_
      refine wp_bipush dX3_run_36 rfl ?_
      refine wp_icmp_ge 79 dX3_run_38 rfl (by first | assumption | exact hR _ | (unfold r32; omega)) ⟨by omega, by omega⟩ (fun c38 => ?_) (fun c38 => ?_)
      · exact hQ
      · exfalso; omega
  | succ m ih =>
    intro n w f g B q1 q2 hA hB hBB hw hQ
    have wr := hw.r
    have bc := bs_cnt hw.b
    have a := stO_eq (tk := tk) hk 6 0 w f g B (by omega) (by omega) hA hB (by omega)
    have a2 := stK_eq hk 6 0 (cO k tk 6 0 w f).1 z0 _ _ (B + 1000 * ((6 : Nat) : Int)) (by omega) (by omega) a.2 (by omega) (by omega)
    have wa : WB (cO k tk 6 0 w f).1 := stO_wb 6 0 w f hw
    have wl : WB (cL k 6 0 (cO k tk 6 0 w f).1 z0 (cO k tk 6 0 w f).2).1 := stK_wb 6 0 _ _ _ (by omega) (by omega) WB.z0
    have rq := rnd_eq (w := w) (tk := tk) hk hA hB (by omega)
    unfold stR at hQ
    refine wp_iload dX3_run_27 rfl ?_
    refine wp_if_eq 79 dX3_run_29 rfl (by first | assumption | exact hR _ | (unfold r32; omega)) (fun c29 => ?_) (fun c29 => ?_)
    · first | (exfalso; omega) | (rw [if_pos (by omega)] at hQ; exact hQ)
    · refine wp_aload_n dX3_run_32 rfl ?_
      refine wp_getf dX3_run_33 fX3_25 (gs_ne (by decide) (gs_eq (gs_lt h8))) rfl ?_
      refine wp_bipush dX3_run_36 rfl ?_
      refine wp_icmp_ge 79 dX3_run_38 rfl (by first | assumption | exact hR _ | (unfold r32; omega)) ⟨by omega, by omega⟩ (fun c38 => ?_) (fun c38 => ?_)
      · first | (exfalso; omega) | (rw [if_pos (by omega)] at hQ; exact hQ)
      · refine wp_aload_n dX3_run_41 rfl ?_
        refine wp_iload dX3_run_42 rfl ?_
        refine wp_iload_n dX3_run_44 rfl ?_
        refine wp_iload_n dX3_run_45 rfl ?_
        refine wp_iv3 dX3_run_46 VX3_obtainAll lX3_29 (gs_ne (by decide) (gs_eq (gs_lt h8))) (rq0 rfl rfl) (Nat.le_of_ble_eq_true rfl) (C_obtainAll (gs_eq (gs_lt h8)) (gs_ne (by decide) h3) (gs_ne (by decide) h4) hk ht hA hB (by omega) hw ?_)
        dsimp only [pushR]
        refine wp_istore (L' := [some (vR 8), some (vI x), some (vI k), some (vI tk), some (vI la), some (vI fa), some (vI (bs (cO k tk 6 0 w f).1))]) dX3_run_49 (by decide) rfl ?_
        refine wp_aload_n dX3_run_51 rfl ?_
        refine wp_iload dX3_run_52 rfl ?_
        refine wp_aload_n dX3_run_54 rfl ?_
        refine wp_iload dX3_run_55 rfl ?_
        refine wp_iload_n dX3_run_57 rfl ?_
        refine wp_iv2 dX3_run_58 VX3_lookAll lX3_33 (gs_ne (by decide) (gs_eq (gs_lt h8))) (rq0 rfl rfl) (Nat.le_of_ble_eq_true rfl) (C_lookAll (gs_eq (gs_lt h8)) (gs_ne (by decide) h3) (gs_ne (by decide) h4) hk a.2 (by omega) (by omega) wa ?_)
        dsimp only [pushR]
        refine wp_iv2 dX3_run_61 VX3_fillAll lX3_37 (gs_ne (by decide) (gs_eq (gs_lt h8))) (rq0 rfl rfl) (Nat.le_of_ble_eq_true rfl) (C_fillAll (gs_eq (gs_lt h8)) (gs_ne (by decide) h3) (gs_ne (by decide) h4) a2.2 (by omega) (by omega) wa wl ?_)
        dsimp only [pushR]
        refine wp_istore (L' := [some (vR 8), some (vI x), some (vI k), some (vI tk), some (vI la), some (vI fa), some (vI (bs (wmL (cO k tk 6 0 w f).1 (cL k 6 0 (cO k tk 6 0 w f).1 z0 (cO k tk 6 0 w f).2).1)))]) dX3_run_64 (by decide) rfl ?_
        refine wp_aload_n dX3_run_66 rfl ?_
        refine wp_dup dX3_run_67 rfl ?_
        refine wp_getf dX3_run_68 fX3_25 (gs_ne (by decide) (gs_eq (gs_lt h8))) rfl ?_
        refine wp_iconst dX3_run_71 ?_
        refine wp_iadd dX3_run_72 ?_
        refine wp_putv (fs' := [vR 3, vI (n + 1), vI l0, vI v0, vI f0]) dX3_run_73 (pX3_25 rfl) (gs_ne (by decide) (gs_eq (gs_lt h8))) (Nat.le_of_ble_eq_true rfl) (fitF_int _) rfl ?_
        refine wp_goto 27 dX3_run_76 rfl ?_
        rw [List.set_comm _ _ (show (4 : Nat) ≠ 8 by decide), List.set_set]
        rw [if_neg (by omega)] at hQ
        exact ih (n + 1) (cRnd k tk w f).1 (cRnd k tk w f).2 _ (B + 18000) (by omega) (by omega) rq.2 (by omega) (by omega) (wRnd (f := f) (g := g) hw).1 hQ
set_option maxHeartbeats 2000000 in
theorem C_run {x k tk B : Int} {w f g : Int → Int} (h8 : h[8]? = some (oO 3 [vR 3, vI r0, vI l0, vI v0, vI f0])) (h3 : h[3]? = some (oO 5 [vR 4])) (h4 : h[4]? = some (oI 1060 tf)) (ex : x = bs w) (hk : 0 ≤ k ∧ k < 10) (ht : tk = 0 ∨ tk = 1) (hA : AK B f g) (hB : 1000 ≤ B) (hBB : B + 108000 ≤ 8000000) (hw : WB w) (hQ : ∀ h', h'.length = h.length → (∀ i, i ≠ 4 → i ≠ 8 → h'[i]? = h[i]?) → h'[4]? = some (oI 1060 (cStN k tk w f).2.2) → h'[8]? = some (oO 3 [vR 3, vI ((cStN k tk w f).1), vI (wAl (cStN k tk w f).2.2 - wAl f), vI (cnt w - cnt (cStN k tk w f).2.1), vI ((cStN k tk w f).2.2 14 - f 14)]) → Q none h') : Cl X kX3_run [vR 8, vI x, vI k, vI tk] (h.set 4 (oI 1060 f)) Q := by
  refine cl_of rfl (Nat.le_of_ble_eq_true rfl) rfl ?_
  have hiw := (hA.iw hB).1
  have sr := stR_eq (tk := tk) hk 6 0 w f g B hA hB (by omega)
  have hi2 := (sr.2.2.iw (by omega)).1
  have wb2 := (stR_wb (fun w f h => (wRnd (f := f) (g := g) h).1) 6 0 w f hw : WB (stR (cRnd k tk) 6 0 w f).2.1 ∧ _).1
  subst ex
  refine wp_aload_n dX3_run_0 rfl ?_
  refine wp_getf dX3_run_1 fX3_9 (gs_ne (by decide) h8) rfl ?_
  refine wp_iv0 dX3_run_4 VX5_allLoads lX3_15 (gs_ne (by decide) h3) (rq0 rfl rfl) (Nat.le_of_ble_eq_true rfl) (sa_of (gs_eq (gs_lt h4)) (C_wallLoads (sa_mk (by decide) (gs_ne (by decide) h3) rfl (gs_eq (gs_lt h4))) hiw (by omega) ?_))
  dsimp only [pushR]
  rw [set_same (gs_eq (gs_lt h4))]
  refine wp_istore (L' := [some (vR 8), some (vI (bs w)), some (vI k), some (vI tk), some (vI (wAl f)), none, none]) dX3_run_7 (by decide) rfl ?_
  refine wp_aload_n dX3_run_9 rfl ?_
  refine wp_getf dX3_run_10 fX3_9 (gs_ne (by decide) h8) rfl ?_
  refine wp_iconst dX3_run_13 ?_
  refine wp_iv1 dX3_run_14 VX5_ledOf lX3_21 (gs_ne (by decide) h3) (rq0 rfl rfl) (Nat.le_of_ble_eq_true rfl) (sa_of (gs_eq (gs_lt h4)) (C_wledOf (sa_mk (by decide) (gs_ne (by decide) h3) rfl (gs_eq (gs_lt h4))) (by omega) rfl ?_))
  dsimp only [pushR]
  rw [set_same (gs_eq (gs_lt h4))]
  refine wp_istore (L' := [some (vR 8), some (vI (bs w)), some (vI k), some (vI tk), some (vI (wAl f)), some (vI (f 14)), none]) dX3_run_17 (by decide) rfl ?_
  refine wp_iload_n dX3_run_19 rfl ?_
  refine wp_istore (L' := [some (vR 8), some (vI (bs w)), some (vI k), some (vI tk), some (vI (wAl f)), some (vI (f 14)), some (vI (bs w))]) dX3_run_20 (by decide) rfl ?_
  refine wp_aload_n dX3_run_22 rfl ?_
  refine wp_iconst dX3_run_23 ?_
  refine wp_putv (fs' := [vR 3, vI 0, vI l0, vI v0, vI f0]) dX3_run_24 (pX3_25 rfl) (gs_ne (by decide) h8) (Nat.le_of_ble_eq_true rfl) (fitF_int _) rfl ?_
  rw [List.set_comm _ _ (show (4 : Nat) ≠ 8 by decide)]
  refine lp_run h8 h3 h4 hk ht 6 0 w f g B (by omega) (by omega) hA hB (by omega) hw ?_
  have eN : stR (cRnd k tk) 6 0 w f = cStN k tk w f := rfl
  rw [eN] at hi2 wb2 ⊢
  generalize cStN k tk w f = N at *
  refine wp_aload_n dX3_run_79 rfl ?_
  refine wp_iload_n dX3_run_80 rfl ?_
  refine wp_is1 dX3_run_81 SJ6_bitCount_0f7a4 lX3_40 (rq0 rfl rfl) (Nat.le_of_ble_eq_true rfl) (C_bcb hw.b ?_)
  dsimp only [pushR]
  refine wp_iload dX3_run_84 rfl ?_
  refine wp_is1 dX3_run_86 SJ6_bitCount_0f7a4 lX3_40 (rq0 rfl rfl) (Nat.le_of_ble_eq_true rfl) (C_bcb wb2.b ?_)
  dsimp only [pushR]
  refine wp_isub dX3_run_89 ?_
  refine wp_putv (fs' := [vR 3, vI N.1, vI l0, vI (cnt w - cnt N.2.1), vI f0]) dX3_run_90 (pX3_45 rfl) (gs_ne (by decide) (gs_eq (gs_lt h8))) (Nat.le_of_ble_eq_true rfl) (fitF_int _) rfl ?_
  refine wp_aload_n dX3_run_93 rfl ?_
  refine wp_aload_n dX3_run_94 rfl ?_
  refine wp_getf dX3_run_95 fX3_9 (gs_eq (gs_l (gs_l (gs_lt h8)))) rfl ?_
  refine wp_iv0 dX3_run_98 VX5_allLoads lX3_15 (gs_ne (by decide) (gs_ne (by decide) (gs_ne (by decide) h3))) (rq0 rfl rfl) (Nat.le_of_ble_eq_true rfl) (sa_of (gs_ne (by decide) (gs_eq (gs_l (gs_lt h4)))) (C_wallLoads (sa_mk (by decide) (gs_ne (by decide) (gs_ne (by decide) (gs_ne (by decide) h3))) rfl (gs_ne (by decide) (gs_eq (gs_l (gs_lt h4))))) hi2 (by omega) ?_))
  dsimp only [pushR]
  rw [set_same (gs_ne (by decide) (gs_eq (gs_l (gs_lt h4))))]
  refine wp_iload dX3_run_101 rfl ?_
  refine wp_isub dX3_run_103 ?_
  refine wp_putv (fs' := [vR 3, vI N.1, vI ((wAl N.2.2) - (wAl f)), vI (cnt w - cnt N.2.1), vI f0]) dX3_run_104 (pX3_48 rfl) (gs_eq (gs_l (gs_l (gs_lt h8)))) (Nat.le_of_ble_eq_true rfl) (fitF_int _) rfl ?_
  refine wp_aload_n dX3_run_107 rfl ?_
  refine wp_aload_n dX3_run_108 rfl ?_
  refine wp_getf dX3_run_109 fX3_9 (gs_eq (gs_l (gs_l (gs_l (gs_lt h8))))) rfl ?_
  refine wp_iconst dX3_run_112 ?_
  refine wp_iv1 dX3_run_113 VX5_ledOf lX3_21 (gs_ne (by decide) (gs_ne (by decide) (gs_ne (by decide) (gs_ne (by decide) h3)))) (rq0 rfl rfl) (Nat.le_of_ble_eq_true rfl) (sa_of (gs_ne (by decide) (gs_ne (by decide) (gs_eq (gs_l (gs_lt h4))))) (C_wledOf (sa_mk (by decide) (gs_ne (by decide) (gs_ne (by decide) (gs_ne (by decide) (gs_ne (by decide) h3)))) rfl (gs_ne (by decide) (gs_ne (by decide) (gs_eq (gs_l (gs_lt h4)))))) (by omega) rfl ?_))
  dsimp only [pushR]
  rw [set_same (gs_ne (by decide) (gs_ne (by decide) (gs_eq (gs_l (gs_lt h4)))))]
  refine wp_iload dX3_run_116 rfl ?_
  refine wp_isub dX3_run_118 ?_
  refine wp_putv (fs' := [vR 3, vI N.1, vI ((wAl N.2.2) - (wAl f)), vI (cnt w - cnt N.2.1), vI (N.2.2 14 - f 14)]) dX3_run_119 (pX3_51 rfl) (gs_eq (gs_l (gs_l (gs_l (gs_lt h8))))) (Nat.le_of_ble_eq_true rfl) (fitF_int _) rfl ?_
  exact wp_ret dX3_run_122 rfl (hQ _ (by simp only [List.length_set]) (fun i q4 q8 => by (repeat rw [List.getElem?_set_ne (by omega)])) (gs_ne (by decide) (gs_ne (by decide) (gs_ne (by decide) (gs_eq (gs_l (gs_lt h4)))))) (gs_eq (gs_l (gs_l (gs_l (gs_l (gs_lt h8)))))))
theorem C_outcome {i n l s fl : Int} (h8 : h[8]? = some (oO 3 [vR 3, vI n, vI l, vI s, vI fl])) (ri : r32 i) (hQ : Q (some (vI (if i = 0 then n else if i = 1 then l else if i = 2 then s else fl))) h) : Cl X kX3_outcome [vR 8, vI i] h Q := by
  refine cl_of rfl (Nat.le_of_ble_eq_true rfl) rfl ?_
  refine wp_iload_n dX3_outcome_0 rfl ?_
  rcases Decidable.em (i = 0) with e1_0 | e1_0
  · refine wp_tableIn (off := 27) 28 dX3_outcome_1 (by first | assumption | exact hR _ | (unfold r32; omega)) (by omega) (by omega) (by rw [e1_0]; rfl) rfl ?_
    refine wp_aload_n dX3_outcome_28 rfl ?_
    refine wp_getf dX3_outcome_29 fX3_25 h8 rfl ?_
    exact wp_iret dX3_outcome_32 rfl (by (repeat' split at hQ) <;> first | (exfalso; omega) | exact hQ)
  rcases Decidable.em (i = 1) with e1_1 | e1_1
  · refine wp_tableIn (off := 32) 33 dX3_outcome_1 (by first | assumption | exact hR _ | (unfold r32; omega)) (by omega) (by omega) (by rw [e1_1]; rfl) rfl ?_
    refine wp_aload_n dX3_outcome_33 rfl ?_
    refine wp_getf dX3_outcome_34 fX3_48 h8 rfl ?_
    exact wp_iret dX3_outcome_37 rfl (by (repeat' split at hQ) <;> first | (exfalso; omega) | exact hQ)
  rcases Decidable.em (i = 2) with e1_2 | e1_2
  · refine wp_tableIn (off := 37) 38 dX3_outcome_1 (by first | assumption | exact hR _ | (unfold r32; omega)) (by omega) (by omega) (by rw [e1_2]; rfl) rfl ?_
    refine wp_aload_n dX3_outcome_38 rfl ?_
    refine wp_getf dX3_outcome_39 fX3_45 h8 rfl ?_
    exact wp_iret dX3_outcome_42 rfl (by (repeat' split at hQ) <;> first | (exfalso; omega) | exact hQ)
  refine wp_tableOut 43 dX3_outcome_1 (by first | assumption | exact hR _ | (unfold r32; omega)) (by omega) rfl ?_
  refine wp_aload_n dX3_outcome_43 rfl ?_
  refine wp_getf dX3_outcome_44 fX3_51 h8 rfl ?_
  exact wp_iret dX3_outcome_47 rfl (by (repeat' split at hQ) <;> first | (exfalso; omega) | exact hQ)
set_option maxHeartbeats 2000000 in
theorem C_cstorm {x k tk i B : Int} {f g : Int → Int} (h0 : h[0]? = some (oO 6 (cF sp kp))) (h1 : h[1]? = some (oO 5 [vR 2])) (h2 : h[2]? = some (oI 1060 f)) (h8 : h[8]? = some (oO 3 [vR 3, vI r0, vI l0, vI v0, vI f0])) (h3 : h[3]? = some (oO 5 [vR 4])) (h4 : h[4]? = some (oI 1060 tf)) (hzf : SmZ f) (hzt : SmZ tf) (hA : AK B f g) (hB : 1000 ≤ B) (hBB : B + 108000 ≤ 8000000) (rx : r32 x) (rk : r32 k) (rt : r32 tk) (ri : r32 i) (hQ0 : ¬ ((0 < x ∧ x < 64) ∧ (0 ≤ k ∧ k < 10) ∧ (0 ≤ tk ∧ tk < 2) ∧ 0 ≤ i ∧ i < 4) → Q (some (vI (-1))) h) (hQ : (0 < x ∧ x < 64) ∧ (0 ≤ k ∧ k < 10) ∧ (0 ≤ tk ∧ tk < 2) ∧ 0 ≤ i ∧ i < 4 → ∀ h' tf' a1 a2 a3 a4, SmZ tf' → h'.length = h.length → (∀ i, i ≠ 4 → i ≠ 8 → h'[i]? = h[i]?) → h'[4]? = some (oI 1060 tf') → h'[8]? = some (oO 3 [vR 3, vI a1, vI a2, vI a3, vI a4]) → Q (some (vI (cStorm k tk (clF x) f i))) h') : Cl X kX6_storm [vR 0, vI x, vI k, vI tk, vI i] h Q := by
  refine cl_of rfl (Nat.le_of_ble_eq_true rfl) rfl ?_
  refine wp_iload_n dX6_storm_0 rfl ?_
  refine wp_if_le 14 dX6_storm_1 rfl (by first | assumption | exact hR _ | (unfold r32; omega)) (fun c1 => ?_) (fun c1 => ?_)
  · refine wp_iconst dX6_storm_14 ?_
    refine wp_istore (L' := [some (vR 0), some (vI x), some (vI k), some (vI tk), some (vI i), some (vI 0)]) dX6_storm_15 (by decide) rfl ?_
    refine wp_iload dX6_storm_17 rfl ?_
    refine wp_if_eq 48 dX6_storm_19 rfl ⟨by omega, by omega⟩ (fun c19 => ?_) (fun c19 => absurd c19 (by omega))
    refine wp_iconst dX6_storm_48 ?_
    exact wp_iret dX6_storm_49 rfl (hQ0 (by omega))
  · refine wp_iload_n dX6_storm_4 rfl ?_
    refine wp_bipush dX6_storm_5 rfl ?_
    refine wp_icmp_ge 14 dX6_storm_7 rfl (by first | assumption | exact hR _ | (unfold r32; omega)) ⟨by omega, by omega⟩ (fun c7 => ?_) (fun c7 => ?_)
    · refine wp_iconst dX6_storm_14 ?_
      refine wp_istore (L' := [some (vR 0), some (vI x), some (vI k), some (vI tk), some (vI i), some (vI 0)]) dX6_storm_15 (by decide) rfl ?_
      refine wp_iload dX6_storm_17 rfl ?_
      refine wp_if_eq 48 dX6_storm_19 rfl ⟨by omega, by omega⟩ (fun c19 => ?_) (fun c19 => absurd c19 (by omega))
      refine wp_iconst dX6_storm_48 ?_
      exact wp_iret dX6_storm_49 rfl (hQ0 (by omega))
    · refine wp_iconst dX6_storm_10 ?_
      refine wp_goto 15 dX6_storm_11 rfl ?_
      refine wp_istore (L' := [some (vR 0), some (vI x), some (vI k), some (vI tk), some (vI i), some (vI 1)]) dX6_storm_15 (by decide) rfl ?_
      refine wp_iload dX6_storm_17 rfl ?_
      refine wp_if_eq 48 dX6_storm_19 rfl ⟨by omega, by omega⟩ (fun c19 => absurd c19 (by omega)) (fun c19 => ?_)
      refine wp_iload_n dX6_storm_22 rfl ?_
      refine wp_bipush dX6_storm_23 rfl ?_
      refine wp_is2 dX6_storm_25 SX6_below lX6_81 (rq0 rfl rfl) (Nat.le_of_ble_eq_true rfl) (C_below (by first | assumption | exact hR _ | exact bI_r _ | (unfold r32; omega)) (by first | assumption | exact hR _ | exact bI_r _ | (unfold r32; omega)) ?_)
      dsimp only [pushR]
      refine wp_beq 48 dX6_storm_28 rfl (fun c28 => ?_) (fun c28 => ?_)
      · refine wp_iconst dX6_storm_48 ?_
        exact wp_iret dX6_storm_49 rfl (hQ0 (by omega))
      · refine wp_iload_n dX6_storm_31 rfl ?_
        refine wp_iconst dX6_storm_32 ?_
        refine wp_is2 dX6_storm_33 SX6_below lX6_81 (rq0 rfl rfl) (Nat.le_of_ble_eq_true rfl) (C_below (by first | assumption | exact hR _ | exact bI_r _ | (unfold r32; omega)) (by first | assumption | exact hR _ | exact bI_r _ | (unfold r32; omega)) ?_)
        dsimp only [pushR]
        refine wp_beq 48 dX6_storm_36 rfl (fun c36 => ?_) (fun c36 => ?_)
        · refine wp_iconst dX6_storm_48 ?_
          exact wp_iret dX6_storm_49 rfl (hQ0 (by omega))
        · refine wp_iload dX6_storm_39 rfl ?_
          refine wp_iconst dX6_storm_41 ?_
          refine wp_is2 dX6_storm_42 SX6_below lX6_81 (rq0 rfl rfl) (Nat.le_of_ble_eq_true rfl) (C_below (by first | assumption | exact hR _ | exact bI_r _ | (unfold r32; omega)) (by first | assumption | exact hR _ | exact bI_r _ | (unfold r32; omega)) ?_)
          dsimp only [pushR]
          refine wp_bne 50 dX6_storm_45 rfl (fun c45 => ?_) (fun c45 => ?_)
          · refine wp_aload_n dX6_storm_50 rfl ?_
            refine wp_getf dX6_storm_51 fX6_16 h0 rfl ?_
            refine wp_aload_n dX6_storm_54 rfl ?_
            refine wp_getf dX6_storm_55 fX6_10 h0 rfl ?_
            refine wp_getf dX6_storm_58 fX6_211 h1 rfl ?_
            refine wp_iv1 dX6_storm_61 VX5_copyFrom lX6_214 h3 (rq0 rfl rfl) (Nat.le_of_ble_eq_true rfl) (sa_of h4 (C_wcopyFrom (r := 2) (sa_mk (by decide) h3 rfl h4) (gs_ne (by decide) h2) ?_))
            dsimp only [pushR]
            rw [cp_same hzf hzt]
            refine wp_aload_n dX6_storm_64 rfl ?_
            refine wp_getf dX6_storm_65 fX6_34 (gs_ne (by decide) h0) rfl ?_
            refine wp_iload_n dX6_storm_68 rfl ?_
            refine wp_iload_n dX6_storm_69 rfl ?_
            refine wp_iload_n dX6_storm_70 rfl ?_
            refine wp_iconst dX6_storm_71 ?_
            refine wp_icmp_ne 79 dX6_storm_72 rfl (by first | assumption | exact hR _ | (unfold r32; omega)) ⟨by omega, by omega⟩ (fun c72 => ?_) (fun c72 => ?_)
            · refine wp_iconst dX6_storm_79 ?_
              have etk : tk = 0 := by omega
              have sr := stR_eq (tk := tk) (by omega : 0 ≤ k ∧ k < 10) 6 0 (clF x) f g B hA hB (by omega)
              have zz : SmZ (cStN k tk (clF x) f).2.2 := sr.2.2.1.1.Z
              rw [← etk]
              refine wp_iv3 dX6_storm_80 VX3_run lX6_218 (gs_ne (by decide) h8) (rq0 rfl rfl) (Nat.le_of_ble_eq_true rfl) (C_run h8 h3 h4 (clF_bs (by omega)).symm (by omega) (by omega) hA hB hBB clF_wb (fun h' hl hf g4 g8 => ?_))
              dsimp only [pushR]
              have g0 := (hf 0 (by decide) (by decide)).trans h0
              refine wp_aload_n dX6_storm_83 rfl ?_
              refine wp_getf dX6_storm_84 fX6_34 g0 rfl ?_
              refine wp_iload dX6_storm_87 rfl ?_
              refine wp_iv1 dX6_storm_89 VX3_outcome lX6_222 g8 (rq0 rfl rfl) (Nat.le_of_ble_eq_true rfl) (C_outcome g8 ri ?_)
              dsimp only [pushR]
              exact wp_iret dX6_storm_92 rfl (hQ (by omega) h' _ _ _ _ _ zz hl hf g4 g8)
            · refine wp_iconst dX6_storm_75 ?_
              refine wp_goto 80 dX6_storm_76 rfl ?_
              have etk : tk = 1 := by omega
              have sr := stR_eq (tk := tk) (by omega : 0 ≤ k ∧ k < 10) 6 0 (clF x) f g B hA hB (by omega)
              have zz : SmZ (cStN k tk (clF x) f).2.2 := sr.2.2.1.1.Z
              rw [← etk]
              refine wp_iv3 dX6_storm_80 VX3_run lX6_218 (gs_ne (by decide) h8) (rq0 rfl rfl) (Nat.le_of_ble_eq_true rfl) (C_run h8 h3 h4 (clF_bs (by omega)).symm (by omega) (by omega) hA hB hBB clF_wb (fun h' hl hf g4 g8 => ?_))
              dsimp only [pushR]
              have g0 := (hf 0 (by decide) (by decide)).trans h0
              refine wp_aload_n dX6_storm_83 rfl ?_
              refine wp_getf dX6_storm_84 fX6_34 g0 rfl ?_
              refine wp_iload dX6_storm_87 rfl ?_
              refine wp_iv1 dX6_storm_89 VX3_outcome lX6_222 g8 (rq0 rfl rfl) (Nat.le_of_ble_eq_true rfl) (C_outcome g8 ri ?_)
              dsimp only [pushR]
              exact wp_iret dX6_storm_92 rfl (hQ (by omega) h' _ _ _ _ _ zz hl hf g4 g8)
          · refine wp_iconst dX6_storm_48 ?_
            exact wp_iret dX6_storm_49 rfl (hQ0 (by omega))
end SV
