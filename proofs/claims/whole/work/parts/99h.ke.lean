/-! tried and best, both faces -/
def cTr (Rc : Int → Int → Int) (Zc : Int → Int) (f : Int → Int) (d a t : Int) : Int := (tcS (Rc d) a t (kaL (Rc d) (Zc d).toNat 0).toNat 0 0 f).1
def rTr (R Z : Int → Int) (g : Int → Int) (d a t : Int) : Int := (trS (fun j => R (40 * d + j)) a (Z d).toNat 0 0 (ud g 8 t)).1
def bsL (H : Int → Int) : Nat → Int → Int → Int
  | 0, _, b => b
  | m + 1, p, b => bsL H m (p + 1) (if H b < H p then p else b)
section KE
variable {X : XS} {h : AH} {Q : Option AV → AH → Prop} {sp kp : AV} {Rc : Int → Int → Int} {Zc : Int → Int} {f tf g Kp : Int → Int} {dn km ln ik B : Int} {T P PS R Z I : Int → Int} {b : Nat × Nat}
theorem HW.p8 {t : Int} (hH : HW B f g) (hB : 1000 ≤ B) (ht : 0 ≤ t ∧ t < 4) : HW B f (ud g 8 t) := by
  have e := sm_pol (v := f 8) (w := t) hH.1 hH.2.1
  rw [ud_id] at e
  exact ⟨e, hH.2.1.wr (by unfold CellM; omega), hH.2.2⟩
theorem cTr_b {d a t : Int} (hH : HW B f g) (hB : 1000 ≤ B) (ha : 0 ≤ a ∧ a < 6) (ht : 0 ≤ t ∧ t < 4) (hz : -1 ≤ Zc d ∧ Zc d ≤ 40) : 0 ≤ cTr Rc Zc f d a t ∧ cTr Rc Zc f d a t ≤ 40 := by
  have kb := kaL_b (Rc d) (Zc d).toNat 0
  have q := tcS_hw (r := Rc d) (t := t) ha (kaL (Rc d) (Zc d).toNat 0).toNat 0 0 f (ud g 8 t) B (hH.p8 hB ht) hB (by rw [ud_eq]) (fun j q1 q2 => kaL_keys (Rc d) (Zc d).toNat 0 j q1 (by omega))
  unfold cTr
  omega
theorem tr_eq {d a t : Int} (hH : HW B f g) (hB : 1000 ≤ B) (ha : 0 ≤ a ∧ a < 6) (ht : 0 ≤ t ∧ t < 4) (hd : 0 ≤ d ∧ d < 4) (hS : SHR Rc R Zc Z) : cTr Rc Zc f d a t = rTr R Z g d a t := by
  have zz := hS.2 d hd
  have kb := kaL_b (fun j => R (40 * d + j)) (Z d).toNat 0
  have hr : ∀ j, 0 ≤ j → j < 0 + ((Z d).toNat : Int) → Rc d j = (fun j => R (40 * d + j)) j := fun j q1 q2 => hS.1 d j hd ⟨q1, by omega⟩
  unfold cTr rTr
  rw [zz, kaL_cong (Z d).toNat 0 hr, tcS_cong _ 0 0 f (fun j q1 q2 => hr j q1 (by omega))]
  exact ts_eq ha (Z d).toNat 0 0 f (ud g 8 t) B (hH.p8 hB ht) hB (by rw [ud_eq]) _ (by omega)
theorem bsL_cong {H H' : Int → Int} (hh : ∀ t, 0 ≤ t ∧ t < 4 → H t = H' t) : ∀ (m : Nat) (p b : Int), p + m = 4 → 0 ≤ p → 0 ≤ b ∧ b < 4 → bsL H m p b = bsL H' m p b := by
  intro m
  induction m with
  | zero => intro p b _ _ _; rfl
  | succ m ih =>
    intro p b h1 h2 h3
    unfold bsL
    rw [hh b h3, hh p ⟨h2, by omega⟩]
    exact ih _ _ (by omega) (by omega) (by split <;> omega)
set_option maxHeartbeats 1000000 in
theorem C_ctried {d a t : Int} (h0 : h[0]? = some (oO 6 (cF sp kp))) (h1 : h[1]? = some (oO 5 [vR 2])) (h2 : h[2]? = some (oI 1060 f)) (h3 : h[3]? = some (oO 5 [vR 4])) (h4 : h[4]? = some (oI 1060 tf)) (hzf : SmZ f) (hS : SHc h Rc Zc) (hZc : ∀ j, -1 ≤ Zc j ∧ Zc j ≤ 40) (hr6 : ∀ d j, 0 ≤ d ∧ d < 4 → r64 (Rc d j)) (hH : HW B f g) (hB : 1000 ≤ B) (hBB : B + 20000 ≤ 8000000) (hzt : SmZ tf) (rd : r32 d) (ra : r32 a) (rt : r32 t) (hQ0 : ¬ ((0 ≤ d ∧ d < 4) ∧ (0 ≤ a ∧ a < 6) ∧ 0 ≤ t ∧ t < 4) → Q (some (vI (-1))) h) (hQ1 : (0 ≤ d ∧ d < 4) ∧ (0 ≤ a ∧ a < 6) ∧ 0 ≤ t ∧ t < 4 → Zc d < 0 → Q (some (vI (-11))) h) (hQ : (0 ≤ d ∧ d < 4) ∧ (0 ≤ a ∧ a < 6) ∧ 0 ≤ t ∧ t < 4 → ¬ Zc d < 0 → ∀ tf', SmZ tf' → Q (some (vI (cTr Rc Zc f d a t))) (h.set 4 (oI 1060 tf'))) : Cl X kX6_tried [vR 0, vI d, vI a, vI t] h Q := by
  refine cl_of rfl (Nat.le_of_ble_eq_true rfl) rfl ?_
  have hzd := hZc d
  have hRZ : ∀ j, r32 (Zc j) := fun j => by have := hZc j; unfold r32; omega
  refine wp_iload_n dX6_tried_0 rfl ?_
  refine wp_iconst dX6_tried_1 ?_
  refine wp_is2 dX6_tried_2 SX6_below lX6_81 (rq0 rfl rfl) (Nat.le_of_ble_eq_true rfl) (C_below (by first | assumption | exact hR _ | exact bI_r _ | (unfold r32; omega)) (by first | assumption | exact hR _ | exact bI_r _ | (unfold r32; omega)) ?_)
  dsimp only [pushR]
  refine wp_beq 25 dX6_tried_5 rfl (fun c5 => ?_) (fun c5 => ?_)
  · refine wp_iconst dX6_tried_25 ?_
    exact wp_iret dX6_tried_26 rfl (by first | exact hQ0 (by omega) | exact hQ1 (by omega) (by omega))
  · refine wp_iload_n dX6_tried_8 rfl ?_
    refine wp_bipush dX6_tried_9 rfl ?_
    refine wp_is2 dX6_tried_11 SX6_below lX6_81 (rq0 rfl rfl) (Nat.le_of_ble_eq_true rfl) (C_below (by first | assumption | exact hR _ | exact bI_r _ | (unfold r32; omega)) (by first | assumption | exact hR _ | exact bI_r _ | (unfold r32; omega)) ?_)
    dsimp only [pushR]
    refine wp_beq 25 dX6_tried_14 rfl (fun c14 => ?_) (fun c14 => ?_)
    · refine wp_iconst dX6_tried_25 ?_
      exact wp_iret dX6_tried_26 rfl (by first | exact hQ0 (by omega) | exact hQ1 (by omega) (by omega))
    · refine wp_iload_n dX6_tried_17 rfl ?_
      refine wp_iconst dX6_tried_18 ?_
      refine wp_is2 dX6_tried_19 SX6_below lX6_81 (rq0 rfl rfl) (Nat.le_of_ble_eq_true rfl) (C_below (by first | assumption | exact hR _ | exact bI_r _ | (unfold r32; omega)) (by first | assumption | exact hR _ | exact bI_r _ | (unfold r32; omega)) ?_)
      dsimp only [pushR]
      refine wp_bne 27 dX6_tried_22 rfl (fun c22 => ?_) (fun c22 => ?_)
      · refine wp_aload_n dX6_tried_27 rfl ?_
        refine wp_getf dX6_tried_28 fX6_68 h0 rfl ?_
        refine wp_iload_n dX6_tried_31 rfl ?_
        refine wp_iav (v := Zc d) dX6_tried_32 hS.2.2 (by decide) (by omega) rfl ?_
        refine wp_if_ge 41 dX6_tried_33 rfl (by first | assumption | exact hRZ _ | (unfold r32; omega)) (fun c33 => ?_) (fun c33 => ?_)
        · refine wp_aload_n dX6_tried_41 rfl ?_
          refine wp_iload_n dX6_tried_42 rfl ?_
          refine wp_iload_n dX6_tried_43 rfl ?_
          refine wp_iload_n dX6_tried_44 rfl ?_
          refine wp_iv3 dX6_tried_45 VX6_hitsTried lX6_234 h0 (rq0 rfl rfl) (Nat.le_of_ble_eq_true rfl) (C_hitsTried h0 h1 h2 h3 h4 hzf hzt hS (by omega) (by omega) hZc (fun j => hr6 d j (by omega)) (by omega) (by omega) (hH.p8 (t := t) hB (by omega)) hB hBB (by rw [ud_eq]) (fun tf1 z1 => ?_))
          dsimp only [pushR]
          have q1 := hQ (by omega) (by omega) tf1 z1
          unfold cTr at q1
          exact wp_iret dX6_tried_48 rfl q1
        · refine wp_bipush dX6_tried_36 rfl ?_
          refine wp_goto 48 dX6_tried_38 rfl ?_
          exact wp_iret dX6_tried_48 rfl (by first | exact hQ0 (by omega) | exact hQ1 (by omega) (by omega))
      · refine wp_iconst dX6_tried_25 ?_
        exact wp_iret dX6_tried_26 rfl (by first | exact hQ0 (by omega) | exact hQ1 (by omega) (by omega))
set_option maxHeartbeats 1000000 in
theorem C_rtried {d a t : Int} (hM : MV h g Kp dn km T ln P PS R Z I ik) (hZ : ∀ j, -1 ≤ Z j ∧ Z j ≤ 40) (hr6 : ∀ j, r64 (R j)) (hH : HW B f g) (hz : ZM g) (hB : 1000 ≤ B) (hBB : B + 20000 ≤ 8000000) (rd : r32 d) (ra : r32 a) (rt : r32 t) (hQ0 : ¬ ((0 ≤ d ∧ d < 4) ∧ (0 ≤ a ∧ a < 6) ∧ 0 ≤ t ∧ t < 4) → Q (some (vI (-1))) h) (hQ1 : (0 ≤ d ∧ d < 4) ∧ (0 ≤ a ∧ a < 6) ∧ 0 ≤ t ∧ t < 4 → Z d < 0 → Q (some (vI (-11))) h) (hQ : (0 ≤ d ∧ d < 4) ∧ (0 ≤ a ∧ a < 6) ∧ 0 ≤ t ∧ t < 4 → ¬ Z d < 0 → ∀ h', MV h' g Kp dn km T ln P PS R Z I ik → FRm h h' → Q (some (vI (rTr R Z g d a t))) h') : Cl X kX7_tried [vR 51, vI d, vI a, vI t] h Q := by
  refine cl_of rfl (Nat.le_of_ble_eq_true rfl) rfl ?_
  obtain ⟨⟨at_, ft, ac, mn, om, fw, mo, un, m51⟩, m52, m53, m54, -, m56, m57, -, -, -, -, -, -, -, -, m67, m68, m69, -⟩ := id hM
  have hRZ : ∀ j, r32 (Z j) := fun j => by have := hZ j; unfold r32; omega
  have zd := hZ d
  have hsee : rSee Z d = (if 0 ≤ d ∧ d ≤ 3 then if Z d = -1 then -11 else 0 else -1) := rfl
  have rsee : r32 (rSee Z d) := by unfold rSee r32; (repeat' split) <;> omega
  refine wp_iload_n dX7_tried_0 rfl ?_
  refine wp_is1 dX7_tried_1 SX7_isGroup lX7_187 (rq0 rfl rfl) (Nat.le_of_ble_eq_true rfl) (C_isGroup (by first | assumption | exact hR _ | exact bI_r _ | (unfold r32; omega)) ?_)
  dsimp only [pushR]
  refine wp_beq 19 dX7_tried_4 rfl (fun c4 => ?_) (fun c4 => ?_)
  · refine wp_iconst dX7_tried_19 ?_
    exact wp_iret dX7_tried_20 rfl (hQ0 (by omega))
  · refine wp_iload_n dX7_tried_7 rfl ?_
    refine wp_i2l dX7_tried_8 (by first | assumption | exact hRZ _ | (unfold r32; omega)) ?_
    refine wp_lconst (z := 0) dX7_tried_9 rfl ?_
    refine wp_ldc2 dX7_tried_10 cX7_195 ?_
    refine wp_is3 dX7_tried_13 SX7_in lX7_94 (rq0 rfl rfl) (Nat.le_of_ble_eq_true rfl) (C_in (by first | assumption | exact r64_of (hR _) | (unfold r64 r32 at *; omega)) (by first | assumption | exact r64_of (hR _) | (unfold r64 r32 at *; omega)) (by first | assumption | exact r64_of (hR _) | (unfold r64 r32 at *; omega)) ?_)
    dsimp only [pushR]
    refine wp_bne 21 dX7_tried_16 rfl (fun c16 => ?_) (fun c16 => ?_)
    · refine wp_aload_n dX7_tried_21 rfl ?_
      refine wp_iload_n dX7_tried_22 rfl ?_
      refine wp_iv1 dX7_tried_23 VX7_lookAtRow lX7_326 m51 (rq0 rfl rfl) (Nat.le_of_ble_eq_true rfl) (C_lookAtRow hM rd hZ ?_)
      dsimp only [pushR]
      refine wp_if_ge 37 dX7_tried_26 rfl (by first | assumption | exact hRZ _ | (unfold r32; omega)) (fun c26 => ?_) (fun c26 => ?_)
      · refine wp_aload_n dX7_tried_37 rfl ?_
        refine wp_iload_n dX7_tried_38 rfl ?_
        refine wp_iload_n dX7_tried_39 rfl ?_
        refine wp_iload_n dX7_tried_40 rfl ?_
        have sb : (0 ≤ d ∧ d ≤ 3) ∧ Z d ≠ -1 := by (repeat' split at hsee) <;> omega
        refine wp_iv3 dX7_tried_41 VX7_hitsBy lX7_329 m51 (rq0 rfl rfl) (Nat.le_of_ble_eq_true rfl) (C_hitsBy hM (by omega) (by omega) (by omega) hZ (by omega) hr6 hH hz hB hBB (fun h' M' F' => ?_))
        dsimp only [pushR]
        have q1 := hQ (by omega) (by omega) h' M' F'
        unfold rTr at q1
        exact wp_iret dX7_tried_44 rfl q1
      · refine wp_aload_n dX7_tried_29 rfl ?_
        refine wp_iload_n dX7_tried_30 rfl ?_
        refine wp_iv1 dX7_tried_31 VX7_lookAtRow lX7_326 m51 (rq0 rfl rfl) (Nat.le_of_ble_eq_true rfl) (C_lookAtRow hM rd hZ ?_)
        dsimp only [pushR]
        refine wp_goto 44 dX7_tried_34 rfl ?_
        exact wp_iret dX7_tried_44 rfl (by (repeat' split at hsee) <;> first | (exfalso; omega) | (rw [hsee]; exact hQ0 (by omega)) | (rw [hsee]; exact hQ1 (by omega) (by omega)))
    · refine wp_iconst dX7_tried_19 ?_
      exact wp_iret dX7_tried_20 rfl (hQ0 (by omega))
set_option maxHeartbeats 2000000 in
theorem lp_cb {d a : Int} (h0 : h[0]? = some (oO 6 (cF sp kp))) (h1 : h[1]? = some (oO 5 [vR 2])) (h2 : h[2]? = some (oI 1060 f)) (h3 : h[3]? = some (oO 5 [vR 4])) (h4 : h[4]? = some (oI 1060 tf)) (hzf : SmZ f) (hS : SHc h Rc Zc) (hZc : ∀ j, -1 ≤ Zc j ∧ Zc j ≤ 40) (hr6 : ∀ d j, 0 ≤ d ∧ d < 4 → r64 (Rc d j)) (hH : HW B f g) (hB : 1000 ≤ B) (hBB : B + 20000 ≤ 8000000) (hd : 0 ≤ d ∧ d < 4) (ha : 0 ≤ a ∧ a < 6) (hZd : 0 ≤ Zc d) : ∀ (m : Nat) (p c mo : Int) (tg : Int → Int) (y6 : Option AV), p + m = 4 → 0 ≤ p → 0 ≤ c ∧ c < 4 → (p = 0 ∧ c = 0 ∧ mo = -1 ∨ mo = cTr Rc Zc f d a c) → SmZ tg → (∀ tf', SmZ tf' → Q (some (vI (bsL (cTr Rc Zc f d a) m p c))) (h.set 4 (oI 1060 tf'))) → Wp X kX6_best 39 [some (vR 0), some (vI d), some (vI a), some (vI c), some (vI mo), some (vI p), y6] [] (h.set 4 (oI 1060 tg)) b Q := by
  intro m
  induction m with
  | zero =>
    intro p c mo tg y6 q1 q2 q3 q4 zt hQ
    refine wp_iload dX6_best_39 rfl ?_
    refine wp_iconst dX6_best_41 ?_
    refine wp_icmp_ge 75 dX6_best_42 rfl (by first | assumption | (unfold r32; omega)) ⟨by omega, by omega⟩ (fun c42 => ?_) (fun c42 => ?_)
    · refine wp_iload_n dX6_best_75 rfl ?_
      exact wp_iret dX6_best_76 rfl (hQ _ zt)
    · exfalso; omega
  | succ m ih =>
    intro p c mo tg y6 q1 q2 q3 q4 zt hQ
    have hS4 : SHc (h.set 4 (oI 1060 tg)) Rc Zc := SHc.fr hS (fun i hi _ => List.getElem?_set_ne (by omega))
    have bp := cTr_b (Rc := Rc) (d := d) (t := p) hH hB ha (by omega) (hZc d)
    have bc := cTr_b (Rc := Rc) (d := d) (t := c) hH hB ha (by omega) (hZc d)
    unfold bsL at hQ
    refine wp_iload dX6_best_39 rfl ?_
    refine wp_iconst dX6_best_41 ?_
    refine wp_icmp_ge 75 dX6_best_42 rfl (by first | assumption | (unfold r32; omega)) ⟨by omega, by omega⟩ (fun c42 => ?_) (fun c42 => ?_)
    · refine wp_iload_n dX6_best_75 rfl ?_
      exact wp_iret dX6_best_76 rfl (False.elim (by omega))
    · refine wp_aload_n dX6_best_45 rfl ?_
      refine wp_iload_n dX6_best_46 rfl ?_
      refine wp_iload_n dX6_best_47 rfl ?_
      refine wp_iload dX6_best_48 rfl ?_
      refine wp_iv3 dX6_best_50 VX6_hitsTried lX6_234 (gs_ne (by decide) h0) (rq0 rfl rfl) (Nat.le_of_ble_eq_true rfl) (C_hitsTried (gs_ne (by decide) h0) (gs_ne (by decide) h1) (gs_ne (by decide) h2) (gs_ne (by decide) h3) (gs_eq (gs_lt h4)) hzf zt hS4 hd hZd hZc (fun j => hr6 d j hd) ha (by omega) (hH.p8 (t := p) hB (by omega)) hB hBB (by rw [ud_eq]) (fun tf1 z1 => ?_))
      dsimp only [pushR]
      rw [List.set_set]
      have ec : (tcS (Rc d) a p (kaL (Rc d) (Zc d).toNat 0).toNat 0 0 f).1 = cTr Rc Zc f d a p := rfl
      rw [ec]
      refine wp_istore (L' := [some (vR 0), some (vI d), some (vI a), some (vI c), some (vI mo), some (vI p), some (vI (cTr Rc Zc f d a p))]) dX6_best_53 (by decide) rfl ?_
      refine wp_iload dX6_best_55 rfl ?_
      refine wp_iload dX6_best_57 rfl ?_
      refine wp_icmp_le 69 dX6_best_59 rfl (by first | assumption | (unfold r32; omega)) (by first | assumption | (unfold r32; omega)) (fun c59 => ?_) (fun c59 => ?_)
      · refine wp_iinc (L' := [some (vR 0), some (vI d), some (vI a), some (vI c), some (vI mo), some (vI (p + 1)), some (vI (cTr Rc Zc f d a p))]) dX6_best_69 rfl rfl ?_
        refine wp_goto 39 dX6_best_72 rfl ?_
        rw [if_neg (by omega)] at hQ
        exact ih (p + 1) c mo tf1 _ (by omega) (by omega) (by omega) (by omega) z1 hQ
      · refine wp_iload dX6_best_62 rfl ?_
        refine wp_istore (L' := [some (vR 0), some (vI d), some (vI a), some (vI c), some (vI (cTr Rc Zc f d a p)), some (vI p), some (vI (cTr Rc Zc f d a p))]) dX6_best_64 (by decide) rfl ?_
        refine wp_iload dX6_best_66 rfl ?_
        refine wp_istore_n (L' := [some (vR 0), some (vI d), some (vI a), some (vI p), some (vI (cTr Rc Zc f d a p)), some (vI p), some (vI (cTr Rc Zc f d a p))]) dX6_best_68 (by decide) rfl ?_
        refine wp_iinc (L' := [some (vR 0), some (vI d), some (vI a), some (vI p), some (vI (cTr Rc Zc f d a p)), some (vI (p + 1)), some (vI (cTr Rc Zc f d a p))]) dX6_best_69 rfl rfl ?_
        refine wp_goto 39 dX6_best_72 rfl ?_
        have hcp : p = c ∨ cTr Rc Zc f d a c < cTr Rc Zc f d a p := by omega
        have e2 : (if cTr Rc Zc f d a c < cTr Rc Zc f d a p then p else c) = p := by split <;> omega
        rw [e2] at hQ
        exact ih (p + 1) p _ tf1 _ (by omega) (by omega) (by omega) (Or.inr rfl) z1 hQ
set_option maxHeartbeats 1000000 in
theorem C_cbest {d a : Int} (h0 : h[0]? = some (oO 6 (cF sp kp))) (h1 : h[1]? = some (oO 5 [vR 2])) (h2 : h[2]? = some (oI 1060 f)) (h3 : h[3]? = some (oO 5 [vR 4])) (h4 : h[4]? = some (oI 1060 tf)) (hzf : SmZ f) (hS : SHc h Rc Zc) (hZc : ∀ j, -1 ≤ Zc j ∧ Zc j ≤ 40) (hr6 : ∀ d j, 0 ≤ d ∧ d < 4 → r64 (Rc d j)) (hH : HW B f g) (hB : 1000 ≤ B) (hBB : B + 20000 ≤ 8000000) (hzt : SmZ tf) (rd : r32 d) (ra : r32 a) (hQ0 : ¬ ((0 ≤ d ∧ d < 4) ∧ 0 ≤ a ∧ a < 6) → Q (some (vI (-1))) h) (hQ1 : (0 ≤ d ∧ d < 4) ∧ 0 ≤ a ∧ a < 6 → Zc d < 0 → Q (some (vI (-11))) h) (hQ : (0 ≤ d ∧ d < 4) ∧ 0 ≤ a ∧ a < 6 → ¬ Zc d < 0 → ∀ tf', SmZ tf' → Q (some (vI (bsL (cTr Rc Zc f d a) 4 0 0))) (h.set 4 (oI 1060 tf'))) : Cl X kX6_best [vR 0, vI d, vI a] h Q := by
  refine cl_of rfl (Nat.le_of_ble_eq_true rfl) rfl ?_
  have hzd := hZc d
  have hRZ : ∀ j, r32 (Zc j) := fun j => by have := hZc j; unfold r32; omega
  refine wp_iload_n dX6_best_0 rfl ?_
  refine wp_iconst dX6_best_1 ?_
  refine wp_is2 dX6_best_2 SX6_below lX6_81 (rq0 rfl rfl) (Nat.le_of_ble_eq_true rfl) (C_below (by first | assumption | exact hR _ | exact bI_r _ | (unfold r32; omega)) (by first | assumption | exact hR _ | exact bI_r _ | (unfold r32; omega)) ?_)
  dsimp only [pushR]
  refine wp_beq 17 dX6_best_5 rfl (fun c5 => ?_) (fun c5 => ?_)
  · refine wp_iconst dX6_best_17 ?_
    exact wp_iret dX6_best_18 rfl (by first | exact hQ0 (by omega) | exact hQ1 (by omega) (by omega))
  · refine wp_iload_n dX6_best_8 rfl ?_
    refine wp_bipush dX6_best_9 rfl ?_
    refine wp_is2 dX6_best_11 SX6_below lX6_81 (rq0 rfl rfl) (Nat.le_of_ble_eq_true rfl) (C_below (by first | assumption | exact hR _ | exact bI_r _ | (unfold r32; omega)) (by first | assumption | exact hR _ | exact bI_r _ | (unfold r32; omega)) ?_)
    dsimp only [pushR]
    refine wp_bne 19 dX6_best_14 rfl (fun c14 => ?_) (fun c14 => ?_)
    · refine wp_aload_n dX6_best_19 rfl ?_
      refine wp_getf dX6_best_20 fX6_68 h0 rfl ?_
      refine wp_iload_n dX6_best_23 rfl ?_
      refine wp_iav (v := Zc d) dX6_best_24 hS.2.2 (by decide) (by omega) rfl ?_
      refine wp_if_ge 31 dX6_best_25 rfl (by first | assumption | exact hRZ _ | (unfold r32; omega)) (fun c25 => ?_) (fun c25 => ?_)
      · refine wp_iconst dX6_best_31 ?_
        refine wp_istore_n (L' := [some (vR 0), some (vI d), some (vI a), some (vI 0), none, none, none]) dX6_best_32 (by decide) rfl ?_
        refine wp_iconst dX6_best_33 ?_
        refine wp_istore (L' := [some (vR 0), some (vI d), some (vI a), some (vI 0), some (vI (-1)), none, none]) dX6_best_34 (by decide) rfl ?_
        refine wp_iconst dX6_best_36 ?_
        refine wp_istore (L' := [some (vR 0), some (vI d), some (vI a), some (vI 0), some (vI (-1)), some (vI 0), none]) dX6_best_37 (by decide) rfl ?_
        rw [← set_same h4]
        exact lp_cb h0 h1 h2 h3 h4 hzf hS hZc hr6 hH hB hBB (by omega) (by omega) (by omega) 4 0 0 (-1) tf _ (by omega) (by omega) (by omega) (Or.inl ⟨rfl, rfl, rfl⟩) hzt (hQ (by omega) (by omega))
      · refine wp_bipush dX6_best_28 rfl ?_
        exact wp_iret dX6_best_30 rfl (by first | exact hQ0 (by omega) | exact hQ1 (by omega) (by omega))
    · refine wp_iconst dX6_best_17 ?_
      exact wp_iret dX6_best_18 rfl (by first | exact hQ0 (by omega) | exact hQ1 (by omega) (by omega))
set_option maxHeartbeats 2000000 in
theorem lp_rb {d a : Int} (hZ : ∀ j, -1 ≤ Z j ∧ Z j ≤ 40) (hr6 : ∀ j, r64 (R j)) (hH : HW B f g) (hz : ZM g) (hB : 1000 ≤ B) (hBB : B + 20000 ≤ 8000000) (hd : 0 ≤ d ∧ d < 4) (ha : 0 ≤ a ∧ a < 6) (hZd : 0 ≤ Z d) (hb : ∀ t, 0 ≤ t ∧ t < 4 → r32 (rTr R Z g d a t)) : ∀ (m : Nat) (p c : Int) (h : AH), p + m = 4 → 0 ≤ p → 0 ≤ c ∧ c < 4 → MV h g Kp dn km T ln P PS R Z I ik → (∀ h', MV h' g Kp dn km T ln P PS R Z I ik → FRm h h' → Q (some (vI (bsL (rTr R Z g d a) m p c))) h') → Wp X kX7_best 28 [some (vR 51), some (vI d), some (vI a), some (vI c), some (vI p)] [] h b Q := by
  intro m
  induction m with
  | zero =>
    intro p c h q1 q2 q3 hM hQ
    obtain ⟨⟨at_, ft, ac, mn, om, fw, mo, un, m51⟩, m52, m53, m54, -, m56, m57, -, -, -, -, -, -, -, -, m67, m68, m69, -⟩ := id hM
    refine wp_iload dX7_best_28 rfl ?_
    refine wp_iconst dX7_best_30 ?_
    refine wp_icmp_ge 65 dX7_best_31 rfl (by first | assumption | (unfold r32; omega)) ⟨by omega, by omega⟩ (fun c31 => ?_) (fun c31 => ?_)
    · refine wp_iload_n dX7_best_65 rfl ?_
      exact wp_iret dX7_best_66 rfl (hQ h hM FRm.rf)
    · exfalso; omega
  | succ m ih =>
    intro p c h q1 q2 q3 hM hQ
    obtain ⟨⟨at_, ft, ac, mn, om, fw, mo, un, m51⟩, m52, m53, m54, -, m56, m57, -, -, -, -, -, -, -, -, m67, m68, m69, -⟩ := id hM
    have rp := hb p (by omega)
    have rc := hb c (by omega)
    unfold bsL at hQ
    refine wp_iload dX7_best_28 rfl ?_
    refine wp_iconst dX7_best_30 ?_
    refine wp_icmp_ge 65 dX7_best_31 rfl (by first | assumption | (unfold r32; omega)) ⟨by omega, by omega⟩ (fun c31 => ?_) (fun c31 => ?_)
    · refine wp_iload_n dX7_best_65 rfl ?_
      exact wp_iret dX7_best_66 rfl (False.elim (by omega))
    · refine wp_aload_n dX7_best_34 rfl ?_
      refine wp_iload_n dX7_best_35 rfl ?_
      refine wp_iload_n dX7_best_36 rfl ?_
      refine wp_iload dX7_best_37 rfl ?_
      refine wp_iv3 dX7_best_39 VX7_hitsBy lX7_329 m51 (rq0 rfl rfl) (Nat.le_of_ble_eq_true rfl) (C_hitsBy hM hd ha (by omega) hZ hZd hr6 hH hz hB hBB (fun h1 M1 F1 => ?_))
      dsimp only [pushR]
      have eh1 : (trS (fun j => R (40 * d + j)) a (Z d).toNat 0 0 (ud g 8 p)).1 = rTr R Z g d a p := rfl
      rw [eh1]
      refine wp_aload_n dX7_best_42 rfl ?_
      refine wp_iload_n dX7_best_43 rfl ?_
      refine wp_iload_n dX7_best_44 rfl ?_
      refine wp_iload_n dX7_best_45 rfl ?_
      obtain ⟨⟨at_', ft', ac', mn', om', fw', mo', un', m51a⟩, -⟩ := id M1
      refine wp_iv3 dX7_best_46 VX7_hitsBy lX7_329 m51a (rq0 rfl rfl) (Nat.le_of_ble_eq_true rfl) (C_hitsBy M1 hd ha (by omega) hZ hZd hr6 hH hz hB hBB (fun h2 M2 F2 => ?_))
      dsimp only [pushR]
      have eh2 : (trS (fun j => R (40 * d + j)) a (Z d).toNat 0 0 (ud g 8 c)).1 = rTr R Z g d a c := rfl
      rw [eh2]
      refine wp_icmp_le 57 dX7_best_49 rfl (by first | assumption | (unfold r32; omega)) (by first | assumption | (unfold r32; omega)) (fun c49 => ?_) (fun c49 => ?_)
      · refine wp_iload_n dX7_best_57 rfl ?_
        refine wp_istore_n (L' := [some (vR 51), some (vI d), some (vI a), some (vI c), some (vI p)]) dX7_best_58 (by decide) rfl ?_
        refine wp_iinc (L' := [some (vR 51), some (vI d), some (vI a), some (vI c), some (vI (p + 1))]) dX7_best_59 rfl rfl ?_
        refine wp_goto 28 dX7_best_62 rfl ?_
        rw [if_neg (by omega)] at hQ
        exact ih (p + 1) _ h2 (by omega) (by omega) (by omega) M2 (fun h' M' F' => hQ h' M' (F1.tr (F2.tr F')))
      · refine wp_iload dX7_best_52 rfl ?_
        refine wp_goto 58 dX7_best_54 rfl ?_
        refine wp_istore_n (L' := [some (vR 51), some (vI d), some (vI a), some (vI p), some (vI p)]) dX7_best_58 (by decide) rfl ?_
        refine wp_iinc (L' := [some (vR 51), some (vI d), some (vI a), some (vI p), some (vI (p + 1))]) dX7_best_59 rfl rfl ?_
        refine wp_goto 28 dX7_best_62 rfl ?_
        rw [if_pos (by omega)] at hQ
        exact ih (p + 1) _ h2 (by omega) (by omega) (by omega) M2 (fun h' M' F' => hQ h' M' (F1.tr (F2.tr F')))
set_option maxHeartbeats 1000000 in
theorem C_rbest {d a : Int} (hM : MV h g Kp dn km T ln P PS R Z I ik) (hZ : ∀ j, -1 ≤ Z j ∧ Z j ≤ 40) (hr6 : ∀ j, r64 (R j)) (hH : HW B f g) (hz : ZM g) (hB : 1000 ≤ B) (hBB : B + 20000 ≤ 8000000) (hb : (0 ≤ d ∧ d < 4) ∧ 0 ≤ a ∧ a < 6 → ∀ t, 0 ≤ t ∧ t < 4 → r32 (rTr R Z g d a t)) (rd : r32 d) (ra : r32 a) (hQ0 : ¬ ((0 ≤ d ∧ d < 4) ∧ 0 ≤ a ∧ a < 6) → Q (some (vI (-1))) h) (hQ1 : (0 ≤ d ∧ d < 4) ∧ 0 ≤ a ∧ a < 6 → Z d < 0 → Q (some (vI (-11))) h) (hQ : (0 ≤ d ∧ d < 4) ∧ 0 ≤ a ∧ a < 6 → ¬ Z d < 0 → ∀ h', MV h' g Kp dn km T ln P PS R Z I ik → FRm h h' → Q (some (vI (bsL (rTr R Z g d a) 4 0 0))) h') : Cl X kX7_best [vR 51, vI d, vI a] h Q := by
  refine cl_of rfl (Nat.le_of_ble_eq_true rfl) rfl ?_
  obtain ⟨⟨at_, ft, ac, mn, om, fw, mo, un, m51⟩, m52, m53, m54, -, m56, m57, -, -, -, -, -, -, -, -, m67, m68, m69, -⟩ := id hM
  have hRZ : ∀ j, r32 (Z j) := fun j => by have := hZ j; unfold r32; omega
  have zd := hZ d
  have hsee : rSee Z d = (if 0 ≤ d ∧ d ≤ 3 then if Z d = -1 then -11 else 0 else -1) := rfl
  have rsee : r32 (rSee Z d) := by unfold rSee r32; (repeat' split) <;> omega
  have b3 : bsL (rTr R Z g d a) 4 0 0 = bsL (rTr R Z g d a) 3 1 0 := by
    show bsL (rTr R Z g d a) 3 (0 + 1) (if rTr R Z g d a 0 < rTr R Z g d a 0 then 0 else 0) = _
    rw [if_neg (by omega)]
    rfl
  rw [b3] at hQ
  refine wp_iload_n dX7_best_0 rfl ?_
  refine wp_is1 dX7_best_1 SX7_isGroup lX7_187 (rq0 rfl rfl) (Nat.le_of_ble_eq_true rfl) (C_isGroup (by first | assumption | exact hR _ | exact bI_r _ | (unfold r32; omega)) ?_)
  dsimp only [pushR]
  refine wp_bne 9 dX7_best_4 rfl (fun c4 => ?_) (fun c4 => ?_)
  · refine wp_aload_n dX7_best_9 rfl ?_
    refine wp_iload_n dX7_best_10 rfl ?_
    refine wp_iv1 dX7_best_11 VX7_lookAtRow lX7_326 m51 (rq0 rfl rfl) (Nat.le_of_ble_eq_true rfl) (C_lookAtRow hM rd hZ ?_)
    dsimp only [pushR]
    refine wp_if_ge 23 dX7_best_14 rfl (by first | assumption | exact hRZ _ | (unfold r32; omega)) (fun c14 => ?_) (fun c14 => ?_)
    · refine wp_iconst dX7_best_23 ?_
      refine wp_istore_n (L' := [some (vR 51), some (vI d), some (vI a), some (vI 0), none]) dX7_best_24 (by decide) rfl ?_
      refine wp_iconst dX7_best_25 ?_
      refine wp_istore (L' := [some (vR 51), some (vI d), some (vI a), some (vI 0), some (vI 1)]) dX7_best_26 (by decide) rfl ?_
      have sb : (0 ≤ d ∧ d ≤ 3) ∧ Z d ≠ -1 := by (repeat' split at hsee) <;> omega
      exact lp_rb hZ hr6 hH hz hB hBB (by omega) (by omega) (by omega) (hb (by omega)) 3 1 0 h (by omega) (by omega) (by omega) hM (hQ (by omega) (by omega))
    · refine wp_aload_n dX7_best_17 rfl ?_
      refine wp_iload_n dX7_best_18 rfl ?_
      refine wp_iv1 dX7_best_19 VX7_lookAtRow lX7_326 m51 (rq0 rfl rfl) (Nat.le_of_ble_eq_true rfl) (C_lookAtRow hM rd hZ ?_)
      dsimp only [pushR]
      exact wp_iret dX7_best_22 rfl (by (repeat' split at hsee) <;> first | (exfalso; omega) | (rw [hsee]; exact hQ0 (by omega)) | (rw [hsee]; exact hQ1 (by omega) (by omega)))
  · refine wp_iconst dX7_best_7 ?_
    exact wp_iret dX7_best_8 rfl (hQ0 (by omega))
end KE
