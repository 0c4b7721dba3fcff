/-! settled, the class' face -/
def cSettled (f : Int → Int) (i : Int) : Int := if i = 0 then (aaL 3 0 0 f).1 else if i = 1 then wCt (aaL 3 0 0 f).2 5 else if i = 2 then wCt (aaL 3 0 0 f).2 7 else wOg (aaL 3 0 0 f).2
section CE
variable {X : XS} {h : AH} {Q : Option AV → AH → Prop} {sp kp : AV} {f tf g : Int → Int} {B : Int}
set_option maxHeartbeats 2000000 in
theorem C_csettled {i : Int} (h0 : h[0]? = some (oO 6 (cF sp kp))) (h1 : h[1]? = some (oO 5 [vR 2])) (h2 : h[2]? = some (oI 1060 f)) (h3 : h[3]? = some (oO 5 [vR 4])) (h4 : h[4]? = some (oI 1060 tf)) (hzf : SmZ f) (hzt : SmZ tf) (hA : AW B f g) (hB : 1000 ≤ B) (hBB : B + 90000 ≤ 8000000) (ri : r32 i) (hQ0 : ¬ (0 ≤ i ∧ i < 4) → Q (some (vI (-1))) h) (hQ : 0 ≤ i ∧ i < 4 → ∀ tf', SmZ tf' → Q (some (vI (cSettled f i))) (h.set 4 (oI 1060 tf'))) : Cl X kX6_settled [vR 0, vI i] h Q := by
  refine cl_of rfl (Nat.le_of_ble_eq_true rfl) rfl ?_
  have w := aa_eq 3 0 0 B f g (by omega) (by omega) hA hB
  have hI2 : IW (B + 90000) (aaL 3 0 0 f).2 := (Sm.iw w.2.1 w.2.2.1 (by omega)).up (by omega)
  have hz2 : SmZ (aaL 3 0 0 f).2 := w.2.1.1.Z
  refine wp_iload_n dX6_settled_0 rfl ?_
  refine wp_iconst dX6_settled_1 ?_
  refine wp_is2 dX6_settled_2 SX6_below lX6_81 (rq0 rfl rfl) (Nat.le_of_ble_eq_true rfl) (C_below (by first | assumption | exact hR _ | exact bI_r _ | (unfold r32; omega)) (by first | assumption | exact hR _ | exact bI_r _ | (unfold r32; omega)) ?_)
  dsimp only [pushR]
  refine wp_bne 10 dX6_settled_5 rfl (fun c5 => ?_) (fun c5 => ?_)
  · refine wp_aload_n dX6_settled_10 rfl ?_
    refine wp_getf dX6_settled_11 fX6_16 h0 rfl ?_
    refine wp_aload_n dX6_settled_14 rfl ?_
    refine wp_getf dX6_settled_15 fX6_10 h0 rfl ?_
    refine wp_getf dX6_settled_18 fX6_211 h1 rfl ?_
    refine wp_iv1 dX6_settled_21 VX5_copyFrom lX6_214 h3 (rq0 rfl rfl) (Nat.le_of_ble_eq_true rfl) (sa_of h4 (C_wcopyFrom (r := 2) (sa_mk (by decide) h3 rfl h4) (gs_ne (by decide) h2) ?_))
    dsimp only [pushR]
    rw [cp_same hzf hzt]
    refine wp_aload_n dX6_settled_24 rfl ?_
    refine wp_getf dX6_settled_25 fX6_16 (gs_ne (by decide) h0) rfl ?_
    refine wp_iv0 dX6_settled_28 VX5_applyAll lX6_225 (gs_ne (by decide) h3) (rq0 rfl rfl) (Nat.le_of_ble_eq_true rfl) (sa_of (gs_eq (gs_lt h4)) (C_applyAll (sa_mk (by decide) (gs_ne (by decide) h3) rfl (gs_eq (gs_lt h4))) hA hB hBB ?_))
    dsimp only [pushR]
    refine wp_istore_n (L' := [some (vR 0), some (vI i), some (vI ((aaL 3 0 0 f).1))]) dX6_settled_31 (by decide) rfl ?_
    refine wp_iload_n dX6_settled_32 rfl ?_
    rcases Decidable.em (i = 0) with e33_0 | e33_0
    · refine wp_tableIn (off := 27) 60 dX6_settled_33 (by first | assumption | exact hR _ | exact bI_r _ | (unfold r32; omega)) (by omega) (by omega) (by rw [e33_0]; rfl) rfl ?_
      refine wp_iload_n dX6_settled_60 rfl ?_
      exact wp_iret dX6_settled_61 rfl (by have q := hQ (by omega) (aaL 3 0 0 f).2 hz2; unfold cSettled at q; rw [List.set_set]; (repeat' split at q) <;> first | (exfalso; omega) | exact q)
    rcases Decidable.em (i = 1) with e33_1 | e33_1
    · refine wp_tableIn (off := 29) 62 dX6_settled_33 (by first | assumption | exact hR _ | exact bI_r _ | (unfold r32; omega)) (by omega) (by omega) (by rw [e33_1]; rfl) rfl ?_
      refine wp_aload_n dX6_settled_62 rfl ?_
      refine wp_getf dX6_settled_63 fX6_16 (gs_ne (by decide) (gs_ne (by decide) h0)) rfl ?_
      refine wp_iconst dX6_settled_66 ?_
      refine wp_iv1 dX6_settled_67 VX5_countThere lX6_228 (gs_ne (by decide) (gs_ne (by decide) h3)) (rq0 rfl rfl) (Nat.le_of_ble_eq_true rfl) (sa_of (gs_eq (gs_l (gs_lt h4))) (C_wcountThere (sa_mk (by decide) (gs_ne (by decide) (gs_ne (by decide) h3)) rfl (gs_eq (gs_l (gs_lt h4)))) hI2 (by omega) (by omega) ?_))
      dsimp only [pushR]
      rw [set_same (gs_eq (gs_l (gs_lt h4)))]
      exact wp_iret dX6_settled_70 rfl (by have q := hQ (by omega) (aaL 3 0 0 f).2 hz2; unfold cSettled at q; rw [List.set_set]; (repeat' split at q) <;> first | (exfalso; omega) | exact q)
    rcases Decidable.em (i = 2) with e33_2 | e33_2
    · refine wp_tableIn (off := 38) 71 dX6_settled_33 (by first | assumption | exact hR _ | exact bI_r _ | (unfold r32; omega)) (by omega) (by omega) (by rw [e33_2]; rfl) rfl ?_
      refine wp_aload_n dX6_settled_71 rfl ?_
      refine wp_getf dX6_settled_72 fX6_16 (gs_ne (by decide) (gs_ne (by decide) h0)) rfl ?_
      refine wp_bipush dX6_settled_75 rfl ?_
      refine wp_iv1 dX6_settled_77 VX5_countThere lX6_228 (gs_ne (by decide) (gs_ne (by decide) h3)) (rq0 rfl rfl) (Nat.le_of_ble_eq_true rfl) (sa_of (gs_eq (gs_l (gs_lt h4))) (C_wcountThere (sa_mk (by decide) (gs_ne (by decide) (gs_ne (by decide) h3)) rfl (gs_eq (gs_l (gs_lt h4)))) hI2 (by omega) (by omega) ?_))
      dsimp only [pushR]
      rw [set_same (gs_eq (gs_l (gs_lt h4)))]
      exact wp_iret dX6_settled_80 rfl (by have q := hQ (by omega) (aaL 3 0 0 f).2 hz2; unfold cSettled at q; rw [List.set_set]; (repeat' split at q) <;> first | (exfalso; omega) | exact q)
    refine wp_tableOut 81 dX6_settled_33 (by first | assumption | exact hR _ | exact bI_r _ | (unfold r32; omega)) (by omega) rfl ?_
    refine wp_aload_n dX6_settled_81 rfl ?_
    refine wp_getf dX6_settled_82 fX6_16 (gs_ne (by decide) (gs_ne (by decide) h0)) rfl ?_
    refine wp_iv0 dX6_settled_85 VX5_outdatedGroups lX6_231 (gs_ne (by decide) (gs_ne (by decide) h3)) (rq0 rfl rfl) (Nat.le_of_ble_eq_true rfl) (sa_of (gs_eq (gs_l (gs_lt h4))) (C_woutdatedGroups (sa_mk (by decide) (gs_ne (by decide) (gs_ne (by decide) h3)) rfl (gs_eq (gs_l (gs_lt h4)))) hI2 (by omega) ?_))
    dsimp only [pushR]
    rw [set_same (gs_eq (gs_l (gs_lt h4)))]
    exact wp_iret dX6_settled_88 rfl (by have q := hQ (by omega) (aaL 3 0 0 f).2 hz2; unfold cSettled at q; rw [List.set_set]; (repeat' split at q) <;> first | (exfalso; omega) | exact q)
  · refine wp_iconst dX6_settled_8 ?_
    exact wp_iret dX6_settled_9 rfl (hQ0 (by omega))
end CE
