/-! the two histories; undo, redo, image, back -/
section RR
variable {X : XS} {h : AH} {Q : Option AV → AH → Prop} {f g o : Int → Int} {sp kp : AV} {B : Int} {hr bh ah dn km : Int} {sl : Int → Option Nat} {rw_ : Int → Int → Int} {ko Kp : Int → Int}
/-- both histories hold rows that belong together -/
def RR (B : Int) (f g : Int → Int) (hr bh ah : Int) (rw_ : Int → Int → Int) (Kp : Int → Int) (dn km : Int) : Prop := AK B f g ∧ bh = dn ∧ bh + ah = km ∧ (0 ≤ dn ∧ dn ≤ km ∧ km ≤ 30) ∧ (0 ≤ hr ∧ hr < 31) ∧ ∀ d, -bh ≤ d ∧ d ≤ ah → AK B (rw_ ((hr + d) % 31)) (rK Kp (dn + d))
theorem rr_told {B' v : Int} {f' g' : Int → Int} {hr' bh' ah' dn' km' : Int} {rw' : Int → Int → Int} {Kp' : Int → Int} (R : RR B f g hr bh ah rw_ Kp dn km) (hA : AK B' f' g') (hB : B ≤ B') (hN : NT v f' hr bh ah rw_ hr' bh' ah' rw') (hT : TO v g' Kp dn km Kp' dn' km') (hv : vOK v) : RR B' f' g' hr' bh' ah' rw' Kp' dn' km' := by
  obtain ⟨r0, r1, r2, r3, r4, r5⟩ := R
  have hx : ¬ (dOn v ∧ dNo v) := by unfold dOn dNo; omega
  have hz := hA.2.2.2
  rcases hN with ⟨n0, rfl, rfl, rfl, rfl⟩ | ⟨n0, rfl, rfl, rfl, rfl⟩
  · rcases hT with ⟨t0, -⟩ | ⟨t0, t1, rfl, rfl, rfl⟩ | ⟨t0, t1, rfl, rfl, rfl⟩
    · exact absurd ⟨n0, t0⟩ hx
    · rw [if_pos (by omega)]
      refine ⟨hA, by omega, by omega, by omega, by omega, fun d hd => ?_⟩
      rw [rK_told hz (by omega) (dn + 1 + d) (by omega)]
      unfold udR
      rcases Decidable.em (d = 0) with e | e
      · subst e
        rw [if_pos (by omega), if_pos (by omega)]
        exact hA
      · rw [if_neg (by omega), if_neg (by omega), show ((hr + 1) % 31 + d) % 31 = (hr + (d + 1)) % 31 by omega, show dn + 1 + d = dn + (d + 1) by omega]
        exact (r5 (d + 1) (by omega)).up hB
    · rw [if_neg (by omega)]
      refine ⟨hA, by omega, by omega, by omega, by omega, fun d hd => ?_⟩
      rw [rK_told hz (by omega) (dn - 1 + 1 + d) (by omega)]
      unfold udR
      rcases Decidable.em (d = 0) with e | e
      · subst e
        rw [if_pos (by omega), if_pos (by omega)]
        exact hA
      · rw [if_neg (by omega), if_neg (by omega), show ((hr + 1) % 31 + d) % 31 = (hr + (d + 1)) % 31 by omega, rK_shift (by omega), show dn - 1 + 1 + d + 1 = dn + (d + 1) by omega]
        exact (r5 (d + 1) (by omega)).up hB
  · rcases hT with ⟨t0, rfl, rfl, rfl⟩ | ⟨t0, -⟩ | ⟨t0, -⟩
    · exact ⟨hA, r1, r2, r3, r4, fun d hd => (r5 d hd).up hB⟩
    · exact absurd (hv.1.resolve_left n0) t0
    · exact absurd (hv.1.resolve_left n0) t0
theorem CA.st {hr' bh' ah' : Int} {r : Int → Int} (C : CA h f hr bh ah sl rw_ kp sp ko) (hz : SmZ r) (H : HH ((h.set 5 (oO 0 [vR 6, vI hr', vI bh', vI ah'])).set 2 (oI 1060 r)) hr' bh' ah' sl rw_) : CA ((h.set 5 (oO 0 [vR 6, vI hr', vI bh', vI ah'])).set 2 (oI 1060 r)) r hr' bh' ah' sl rw_ kp sp ko ∧ FA h ((h.set 5 (oO 0 [vR 6, vI hr', vI bh', vI ah'])).set 2 (oI 1060 r)) := by
  obtain ⟨c0, c1, c2, c3, c4, c5, c6⟩ := C
  obtain ⟨q0, q1, fs, q2, q3⟩ := c1
  have k2 := gs_eq (c := oI 1060 r) (gs_lt (gs_ne (c := oO 0 [vR 6, vI hr', vI bh', vI ah']) (show (5 : Nat) ≠ 2 by decide) c2))
  refine ⟨⟨gs_ne (by decide) (gs_ne (by decide) c0), sa_mk (by decide) (gs_ne (by decide) (gs_ne (by decide) q2)) q3 k2, k2, hz, H, ?_, by rw [List.length_set, List.length_set]; exact c6⟩, by rw [List.length_set, List.length_set]; exact Nat.le_refl _, fun i a1 a2 a3 a4 a5 => by rw [List.getElem?_set_ne (by omega), List.getElem?_set_ne (by omega)]⟩
  rcases c5 with c5 | ⟨q, z1, z2, z3, z4, z5⟩
  · exact Or.inl c5
  · exact Or.inr ⟨q, z1, z2, gs_ne (by omega) (gs_ne (by omega) z3), z4, z5⟩
theorem F_cundo (C : CA h f hr bh ah sl rw_ kp sp ko) (hQ0 : bh = 0 → Q (some (vI (-5))) h) (hQ : bh ≠ 0 → ∀ h', CA h' (rw_ ((hr + -1) % 31)) ((hr + -1) % 31) (bh - 1) (ah + 1) sl rw_ kp sp ko → FA h h' → Q (some (vI (bh - 1))) h') : Cl X kX6_undo [vR 0] h Q := by
  have C' := C
  obtain ⟨c0, c1, c2, c3, c4, c5, c6⟩ := C'
  have e : (hr + 31 - 1) % 31 = (hr + -1) % 31 := by omega
  refine C_cundo c0 c4 c1 c2 c3 hQ0 (fun d k => ?_)
  rw [e] at k ⊢
  have hb := c4.2.2.1
  obtain ⟨s, hs⟩ := c4.2.2.2.2.2 (-1) (by omega)
  have q := C.st (c4.2.2.2.1 _ (by omega) s hs).2.2 k
  exact hQ d _ q.1 q.2
theorem F_credo (C : CA h f hr bh ah sl rw_ kp sp ko) (hQ0 : ah = 0 → Q (some (vI (-5))) h) (hQ : ah ≠ 0 → ∀ h', CA h' (rw_ ((hr + 1) % 31)) ((hr + 1) % 31) (bh + 1) (ah - 1) sl rw_ kp sp ko → FA h h' → Q (some (vI (ah - 1))) h') : Cl X kX6_redo [vR 0] h Q := by
  have C' := C
  obtain ⟨c0, c1, c2, c3, c4, c5, c6⟩ := C'
  refine C_credo c0 c4 c1 c2 c3 hQ0 (fun d k => ?_)
  have hb := c4.2.2.1
  obtain ⟨s, hs⟩ := c4.2.2.2.2.2 1 (by omega)
  have q := C.st (c4.2.2.2.1 _ (by omega) s hs).2.2 k
  exact hQ d _ q.1 q.2
theorem rr_undo (R : RR B f g hr bh ah rw_ Kp dn km) (h0 : bh ≠ 0) : RR B (rw_ ((hr + -1) % 31)) (cpI Kp g ((dn - 1) * 1014) 0 1014) ((hr + -1) % 31) (bh - 1) (ah + 1) rw_ Kp (dn - 1) km := by
  obtain ⟨r0, r1, r2, r3, r4, r5⟩ := R
  rw [cp_rK r0.2.2.2]
  refine ⟨r5 (-1) (by omega), by omega, by omega, by omega, by omega, fun d hd => ?_⟩
  rw [show ((hr + -1) % 31 + d) % 31 = (hr + (d - 1)) % 31 by omega, show dn - 1 + d = dn + (d - 1) by omega]
  exact r5 (d - 1) (by omega)
theorem rr_redo (R : RR B f g hr bh ah rw_ Kp dn km) (h0 : ah ≠ 0) : RR B (rw_ ((hr + 1) % 31)) (cpI Kp g ((dn + 1) * 1014) 0 1014) ((hr + 1) % 31) (bh + 1) (ah - 1) rw_ Kp (dn + 1) km := by
  obtain ⟨r0, r1, r2, r3, r4, r5⟩ := R
  rw [cp_rK r0.2.2.2]
  refine ⟨r5 1 (by omega), by omega, by omega, by omega, by omega, fun d hd => ?_⟩
  rw [show ((hr + 1) % 31 + d) % 31 = (hr + (d + 1)) % 31 by omega, show dn + 1 + d = dn + (d + 1) by omega]
  exact r5 (d + 1) (by omega)
set_option maxHeartbeats 1000000 in
theorem C_cimage (C : CA h f hr bh ah sl rw_ kp sp ko) (hQ : ∀ h' kp', CA h' f hr bh ah sl rw_ kp' sp f → (∃ q : Nat, kp' = vR q) → FA h h' → Q (some (vI (f 0))) h') : Cl X kX6_image [vR 0] h Q := by
  obtain ⟨c0, c1, c2, c3, c4, c5, c6⟩ := C
  obtain ⟨q0, q1, fs, q2, q3⟩ := id c1
  refine cl_of rfl (Nat.le_of_ble_eq_true rfl) rfl ?_
  refine wp_aload_n dX6_image_0 rfl ?_
  refine wp_getf dX6_image_1 fX6_78 c0 rfl ?_
  rcases c5 with c5 | ⟨q, z1, z2, z3, z4, z5⟩
  · subst c5
    refine wp_nonnullN dX6_image_4 ?_
    refine wp_aload_n dX6_image_7 rfl ?_
    refine wp_sipush dX6_image_8 rfl ?_
    refine wp_newi (N := 1060) (b0 := (0, 0)) dX6_image_11 wA_int rfl (by decide) (by decide) (by decide) ?_
    refine wp_putv (fs' := cF sp (vR h.length)) dX6_image_13 (pX6_78 rfl) (ga_lt c0) (Nat.le_of_ble_eq_true rfl) (fitF_arr _ _) rfl ?_
    have k0 := gs_eq (c := oO 6 (cF sp (vR h.length))) (ga_l (z := oI 1060 fun _ => 0) (gs_lt c0))
    have k1 := gs_ne (c := oO 6 (cF sp (vR h.length))) (show (0 : Nat) ≠ 1 by decide) (ga_lt (z := oI 1060 fun _ => 0) q2)
    have k2 := gs_ne (c := oO 6 (cF sp (vR h.length))) (show (0 : Nat) ≠ 2 by decide) (ga_lt (z := oI 1060 fun _ => 0) c2)
    have kn := gs_ne (c := oO 6 (cF sp (vR h.length))) (show (0 : Nat) ≠ h.length by omega) (ga_eq (h := h) (z := oI 1060 fun _ => 0))
    refine wp_aload_n dX6_image_16 rfl ?_
    refine wp_getf dX6_image_17 fX6_10 k0 rfl ?_
    refine wp_aload_n dX6_image_20 rfl ?_
    refine wp_getf dX6_image_21 fX6_78 k0 rfl ?_
    refine wp_iv1 dX6_image_24 VX5_copyTo lX6_295 k1 (rq0 rfl rfl) (Nat.le_of_ble_eq_true rfl) (sa_of k2 (C_wcopyTo (sa_mk (by decide) k1 q3 k2) (gs_ne (by omega) kn) ?_))
    dsimp only [pushR]
    rw [set_same k2, cp_same c3 (fun _ _ => rfl)]
    have j0 := gs_ne (c := oI 1060 f) (show h.length ≠ 0 by omega) k0
    have j1 := gs_ne (c := oI 1060 f) (show h.length ≠ 1 by omega) k1
    have j2 := gs_ne (c := oI 1060 f) (show h.length ≠ 2 by omega) k2
    have jn := gs_eq (c := oI 1060 f) (gs_lt kn)
    refine wp_aload_n dX6_image_27 rfl ?_
    refine wp_getf dX6_image_28 fX6_10 j0 rfl ?_
    refine wp_iv0 dX6_image_31 VX5_now lX6_298 j1 (rq0 rfl rfl) (Nat.le_of_ble_eq_true rfl) (sa_of j2 (C_wnow (v := f 0) (sa_mk (by decide) j1 q3 j2) rfl ?_))
    dsimp only [pushR]
    rw [set_same j2]
    have lft : ∀ i, 3 ≤ i → i < h.length → (((h ++ [oI 1060 fun _ => 0]).set 0 (oO 6 (cF sp (vR h.length)))).set h.length (oI 1060 f))[i]? = h[i]? := fun i a1 a2 => by
      rw [List.getElem?_set_ne (by omega), List.getElem?_set_ne (by omega), List.getElem?_append_left a2]
    refine wp_iret dX6_image_34 rfl (hQ _ (vR h.length) ⟨j0, sa_mk (by decide) j1 q3 j2, j2, c3, ?_, Or.inr ⟨h.length, rfl, c6, jn, c3, fun j hj e => ?_⟩, by simp; omega⟩ ⟨h.length, rfl⟩ ⟨by simp, fun i a1 a2 a3 a4 a5 => lft i a1 (by omega)⟩)
    · obtain ⟨H1, H2, H3, H4, H5, H6⟩ := c4
      exact ⟨(lft 5 (by decide) (gs_lt H1)).trans H1, (lft 6 (by decide) (gs_lt H2)).trans H2, H3, fun i hi s hs => by
        have q := H4 i hi s hs
        have hl := gs_lt q.2.1
        exact ⟨q.1, (lft s (by omega) hl).trans q.2.1, q.2.2⟩, H5, H6⟩
    · have := gs_lt (c4.2.2.2.1 j hj _ e).2.1
      omega
  · subst z1
    refine wp_nonnull 16 dX6_image_4 rfl ?_
    refine wp_aload_n dX6_image_16 rfl ?_
    refine wp_getf dX6_image_17 fX6_10 c0 rfl ?_
    refine wp_aload_n dX6_image_20 rfl ?_
    refine wp_getf dX6_image_21 fX6_78 c0 rfl ?_
    refine wp_iv1 dX6_image_24 VX5_copyTo lX6_295 q2 (rq0 rfl rfl) (Nat.le_of_ble_eq_true rfl) (sa_of c2 (C_wcopyTo c1 (gs_ne (by omega) z3) ?_))
    dsimp only [pushR]
    rw [set_same c2, cp_same c3 z4]
    have j0 := gs_ne (c := oI 1060 f) (show q ≠ 0 by omega) c0
    have j1 := gs_ne (c := oI 1060 f) (show q ≠ 1 by omega) q2
    have j2 := gs_ne (c := oI 1060 f) (show q ≠ 2 by omega) c2
    refine wp_aload_n dX6_image_27 rfl ?_
    refine wp_getf dX6_image_28 fX6_10 j0 rfl ?_
    refine wp_iv0 dX6_image_31 VX5_now lX6_298 j1 (rq0 rfl rfl) (Nat.le_of_ble_eq_true rfl) (sa_of j2 (C_wnow (v := f 0) (sa_mk (by decide) j1 q3 j2) rfl ?_))
    dsimp only [pushR]
    rw [set_same j2]
    refine wp_iret dX6_image_34 rfl (hQ _ (vR q) ⟨j0, sa_mk (by decide) j1 q3 j2, j2, c3, ?_, Or.inr ⟨q, rfl, z2, gs_eq (gs_lt z3), c3, z5⟩, by rw [List.length_set]; exact c6⟩ ⟨q, rfl⟩ ⟨by rw [List.length_set]; exact Nat.le_refl _, fun i a1 a2 a3 a4 a5 => List.getElem?_set_ne (by omega)⟩)
    obtain ⟨H1, H2, H3, H4, H5, H6⟩ := c4
    exact ⟨gs_ne (by omega) H1, gs_ne (by omega) H2, H3, fun i hi s hs => by
      have w := H4 i hi s hs
      exact ⟨w.1, gs_ne (fun e => z5 i hi (by rw [e]; exact hs)) w.2.1, w.2.2⟩, H5, H6⟩
set_option maxHeartbeats 1000000 in
theorem C_cback (C : CA h f hr bh ah sl rw_ kp sp ko) (hQ0 : kp = vN → Q (some (vI (-5))) h) (hQ : kp ≠ vN → ∀ h' sl' rw', CA h' ko hr 0 0 sl' rw' kp sp ko → rw' = udR rw_ hr ko → FA h h' → Q (some (vI (ko 0))) h') : Cl X kX6_back [vR 0] h Q := by
  have C' := C
  obtain ⟨c0, c1, c2, c3, c4, c5, c6⟩ := C'
  obtain ⟨q0, q1, fs, q2, q3⟩ := id c1
  refine cl_of rfl (Nat.le_of_ble_eq_true rfl) rfl ?_
  refine wp_aload_n dX6_back_0 rfl ?_
  refine wp_getf dX6_back_1 fX6_78 c0 rfl ?_
  rcases c5 with c5 | ⟨q, z1, z2, z3, z4, z5⟩
  · subst c5
    refine wp_nonnullN dX6_back_4 ?_
    refine wp_bipush dX6_back_7 rfl ?_
    exact wp_iret dX6_back_9 rfl (hQ0 rfl)
  · subst z1
    refine wp_nonnull 10 dX6_back_4 rfl ?_
    refine wp_aload_n dX6_back_10 rfl ?_
    refine wp_getf dX6_back_11 fX6_10 c0 rfl ?_
    refine wp_aload_n dX6_back_14 rfl ?_
    refine wp_getf dX6_back_15 fX6_78 c0 rfl ?_
    refine wp_iv1 dX6_back_18 VX5_copyFrom lX6_214 q2 (rq0 rfl rfl) (Nat.le_of_ble_eq_true rfl) (sa_of c2 (C_wcopyFrom c1 (gs_ne (by omega) z3) ?_))
    dsimp only [pushR]
    rw [cp_same z4 c3]
    have C2 := C.s2 z4
    refine wp_aload_n dX6_back_21 rfl ?_
    refine wp_getf dX6_back_22 fX6_22 C2.1 rfl ?_
    refine wp_aload_n dX6_back_25 rfl ?_
    refine wp_getf dX6_back_26 fX6_10 C2.1 rfl ?_
    refine wp_iv1 dX6_back_29 VX0_begin lX6_26 C2.2.2.2.2.1.1 (rq1 (0, 0) rfl (by decide) (by decide)) (Nat.le_of_ble_eq_true rfl) (C_begin C2.2.2.2.2.1 C2.2.1 C2.2.2.1 z4 (Or.inr C2.2.2.2.2.2.2) (fun h' sl' k1 k2 => ?_))
    dsimp only [pushR]
    have w := C2.fh k1 k2
    obtain ⟨w0, w1, w2, w3, w4, w5, w6⟩ := id w.1
    obtain ⟨y0, y1, ys, y2, y3⟩ := id w1
    refine wp_aload_n dX6_back_32 rfl ?_
    refine wp_getf dX6_back_33 fX6_10 w0 rfl ?_
    refine wp_iv0 dX6_back_36 VX5_now lX6_298 y2 (rq0 rfl rfl) (Nat.le_of_ble_eq_true rfl) (sa_of w2 (C_wnow (v := ko 0) w1 rfl ?_))
    dsimp only [pushR]
    rw [set_same w2]
    exact wp_iret dX6_back_39 rfl (hQ (fun e => by cases e) h' sl' _ w.1 rfl (FA.s2.tr w.2))
theorem rr_back {I : Int → Int} (R : RR B f g hr bh ah rw_ Kp dn km) (hA : AK B ko I) : RR B ko (cpI I g 0 0 1014) hr 0 0 (udR rw_ hr ko) (cpI I Kp 0 0 1014) 0 0 := by
  obtain ⟨r0, r1, r2, r3, r4, r5⟩ := R
  rw [cp_g hA.2.2.2 r0.2.2.2]
  refine ⟨hA, rfl, rfl, by omega, r4, fun d hd => ?_⟩
  obtain rfl : d = 0 := by omega
  have e := rK_told (Kp := Kp) (n := 0) hA.2.2.2 (by omega) (0 + 0) (by omega)
  rw [if_pos (by omega), show (0 : Int) * 1014 = 0 from rfl] at e
  rw [e]
  unfold udR
  rw [if_pos (by omega)]
  exact hA
end RR
