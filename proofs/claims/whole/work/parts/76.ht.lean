/-! the class: steps back and on, images, what is noted -/
section HT
variable {X : XS} {h : AH} {Q : Option AV → AH → Prop} {g o : Int → Int} {sp kp : AV} {B : Int} {hr bh ah : Int} {sl : Int → Option Nat} {rw_ : Int → Int → Int}
set_option maxHeartbeats 1000000 in
theorem C_stepTo {i : Int} {s : Nat} {bh ah hr : Int} (hS : SA 5 1 2 h) (h5 : h[5]? = some (oO 0 [vR 6, vI hr, vI bh, vI ah])) (h6 : h[6]? = some (oR 1 31 sl)) (h2 : h[2]? = some (oI 1060 g)) (hi : 0 ≤ i ∧ i < 31) (hs : sl i = some s) (hs2 : s ≠ 2 ∧ s ≠ 5) (ho : h[s]? = some (oI 1060 o)) (hz : SmZ o) (hg : SmZ g)
    (hQ : Q (some (vI 1)) ((h.set 5 (oO 0 [vR 6, vI i, vI bh, vI ah])).set 2 (oI 1060 o))) : Cl X kX0_stepTo [vR 5, vI i, vR 1] h Q := by
  refine cl_of rfl (Nat.le_of_ble_eq_true rfl) rfl ?_
  obtain ⟨q0, q1, fs, q2, q3⟩ := id hS
  refine wp_aload_n dX0_stepTo_0 rfl ?_
  refine wp_iload_n dX0_stepTo_1 rfl ?_
  refine wp_putv (fs' := [vR 6, vI i, vI bh, vI ah]) dX0_stepTo_2 (pX0_28 rfl) h5 (Nat.le_of_ble_eq_true rfl) (fitF_int _) rfl ?_
  have k5 := gs_eq (c := oO 0 [vR 6, vI i, vI bh, vI ah]) (gs_lt h5)
  have k6 := gs_ne (c := oO 0 [vR 6, vI i, vI bh, vI ah]) (show (5 : Nat) ≠ 6 by decide) h6
  have k1 := gs_ne (c := oO 0 [vR 6, vI i, vI bh, vI ah]) (show (5 : Nat) ≠ 1 by decide) q2
  have k2 := gs_ne (c := oO 0 [vR 6, vI i, vI bh, vI ah]) (show (5 : Nat) ≠ 2 by decide) h2
  have ks := gs_ne (c := oO 0 [vR 6, vI i, vI bh, vI ah]) (Ne.symm hs2.2) ho
  refine wp_aload_n dX0_stepTo_5 rfl ?_
  refine wp_getf dX0_stepTo_6 fX0_13 k5 rfl ?_
  refine wp_iload_n dX0_stepTo_9 rfl ?_
  refine wp_aav dX0_stepTo_10 k6 (by decide) hi hs ?_
  refine wp_nonnull 16 dX0_stepTo_11 rfl ?_
  refine wp_aload_n dX0_stepTo_16 rfl ?_
  refine wp_aload_n dX0_stepTo_17 rfl ?_
  refine wp_getf dX0_stepTo_18 fX0_13 k5 rfl ?_
  refine wp_iload_n dX0_stepTo_21 rfl ?_
  refine wp_aav dX0_stepTo_22 k6 (by decide) hi hs ?_
  refine wp_iv1 dX0_stepTo_23 VX5_copyFrom lX0_47 k1 (rq0 rfl rfl) (Nat.le_of_ble_eq_true rfl) (sa_of k2 (C_wcopyFrom (sa_mk (by decide) k1 q3 k2) (gs_ne (Ne.symm hs2.1) ks) ?_))
  dsimp only [pushR]
  rw [cp_same hz hg]
  refine wp_iconst dX0_stepTo_26 ?_
  exact wp_zret dX0_stepTo_27 rfl (Or.inr rfl) hQ
/-- a step of the history, the present row from its slot -/
theorem HH.st {hr' bh' ah' : Int} (H : HH h hr bh ah sl rw_) (hb : 0 ≤ hr' ∧ hr' < 31 ∧ 0 ≤ bh' ∧ 0 ≤ ah' ∧ bh' + ah' ≤ 30) (hd : ∀ d, -bh' ≤ d ∧ d ≤ ah' → ∃ s, sl ((hr' + d) % 31) = some s) {r : Int → Int} : HH ((h.set 5 (oO 0 [vR 6, vI hr', vI bh', vI ah'])).set 2 (oI 1060 r)) hr' bh' ah' sl rw_ := by
  obtain ⟨H1, H2, H3, H4, H5, H6⟩ := H
  refine ⟨gs_ne (by decide) (gs_eq (gs_lt H1)), gs_ne (by decide) (gs_ne (by decide) H2), hb, fun i hi s hs => ?_, H5, hd⟩
  have q := H4 i hi s hs
  exact ⟨q.1, gs_ne (by omega) (gs_ne (by omega) q.2.1), q.2.2⟩
set_option maxHeartbeats 1000000 in
theorem C_stepBack (H : HH h hr bh ah sl rw_) (hS : SA 5 1 2 h) (h2 : h[2]? = some (oI 1060 g)) (hg : SmZ g) (hQ0 : bh = 0 → Q (some (vI 0)) h)
    (hQ : bh ≠ 0 → HH ((h.set 5 (oO 0 [vR 6, vI ((hr + 31 - 1) % 31), vI (bh - 1), vI (ah + 1)])).set 2 (oI 1060 (rw_ ((hr + 31 - 1) % 31)))) ((hr + 31 - 1) % 31) (bh - 1) (ah + 1) sl rw_ → Q (some (vI 1)) ((h.set 5 (oO 0 [vR 6, vI ((hr + 31 - 1) % 31), vI (bh - 1), vI (ah + 1)])).set 2 (oI 1060 (rw_ ((hr + 31 - 1) % 31))))) : Cl X kX0_stepBack [vR 5, vR 1] h Q := by
  have H' := H
  obtain ⟨h5, h6, hb, H4, H5, H6⟩ := H'
  refine cl_of rfl (Nat.le_of_ble_eq_true rfl) rfl ?_
  refine wp_aload_n dX0_stepBack_0 rfl ?_
  refine wp_getf dX0_stepBack_1 fX0_17 h5 rfl ?_
  refine wp_if_ne 9 dX0_stepBack_4 rfl (by unfold r32; omega) (fun c4 => ?_) (fun c4 => ?_)
  · obtain ⟨q0, q1, fs, q2, q3⟩ := id hS
    refine wp_aload_n dX0_stepBack_9 rfl ?_
    refine wp_dup dX0_stepBack_10 rfl ?_
    refine wp_getf dX0_stepBack_11 fX0_17 h5 rfl ?_
    refine wp_iconst dX0_stepBack_14 ?_
    refine wp_isub dX0_stepBack_15 ?_
    refine wp_putv (fs' := [vR 6, vI hr, vI (bh - 1), vI ah]) dX0_stepBack_16 (pX0_17 rfl) h5 (Nat.le_of_ble_eq_true rfl) (fitF_int _) rfl ?_
    refine wp_aload_n dX0_stepBack_19 rfl ?_
    refine wp_dup dX0_stepBack_20 rfl ?_
    refine wp_getf dX0_stepBack_21 fX0_21 (gs_eq (gs_lt h5)) rfl ?_
    refine wp_iconst dX0_stepBack_24 ?_
    refine wp_iadd dX0_stepBack_25 ?_
    refine wp_putv (fs' := [vR 6, vI hr, vI (bh - 1), vI (ah + 1)]) dX0_stepBack_26 (pX0_21 rfl) (gs_eq (gs_lt h5)) (Nat.le_of_ble_eq_true rfl) (fitF_int _) rfl ?_
    rw [List.set_set]
    refine wp_aload_n dX0_stepBack_29 rfl ?_
    refine wp_aload_n dX0_stepBack_30 rfl ?_
    refine wp_getf dX0_stepBack_31 fX0_28 (gs_eq (gs_lt h5)) rfl ?_
    refine wp_bipush dX0_stepBack_34 rfl ?_
    refine wp_iadd dX0_stepBack_36 ?_
    refine wp_iconst dX0_stepBack_37 ?_
    refine wp_isub dX0_stepBack_38 ?_
    refine wp_bipush dX0_stepBack_39 rfl ?_
    refine wp_iremn dX0_stepBack_41 (by unfold r32; omega) (by unfold r32; omega) (by omega) (by omega) ?_
    refine wp_aload_n dX0_stepBack_42 rfl ?_
    obtain ⟨s, hs⟩ := H6 (-1) (by omega)
    rw [show (hr + -1) % 31 = (hr + 31 - 1) % 31 by omega] at hs
    have q := H4 _ (by omega) s hs
    have hH := HH.st (r := rw_ ((hr + 31 - 1) % 31)) (hr' := (hr + 31 - 1) % 31) (bh' := bh - 1) (ah' := ah + 1) H (by omega) (fun d hd => by
      have := H6 (d - 1) (by omega)
      rw [show (hr + (d - 1)) % 31 = ((hr + 31 - 1) % 31 + d) % 31 by omega] at this
      exact this)
    refine wp_iv2 dX0_stepBack_43 VX0_stepTo lX0_43 (gs_eq (gs_lt h5)) (rq0 rfl rfl) (Nat.le_of_ble_eq_true rfl) (C_stepTo (s := s) (sa_mk (by decide) (gs_ne (by decide) q2) q3 (gs_ne (by decide) h2)) (gs_eq (gs_lt h5)) (gs_ne (by decide) h6) (gs_ne (by decide) h2) (by omega) hs (by omega) (gs_ne (by omega) q.2.1) q.2.2 hg ?_)
    dsimp only [pushR]
    rw [List.set_set]
    exact wp_zret dX0_stepBack_46 rfl (Or.inr rfl) (hQ c4 hH)
  · refine wp_iconst dX0_stepBack_7 ?_
    exact wp_zret dX0_stepBack_8 rfl (Or.inl rfl) (hQ0 c4)
set_option maxHeartbeats 1000000 in
theorem C_stepOn (H : HH h hr bh ah sl rw_) (hS : SA 5 1 2 h) (h2 : h[2]? = some (oI 1060 g)) (hg : SmZ g) (hQ0 : ah = 0 → Q (some (vI 0)) h)
    (hQ : ah ≠ 0 → HH ((h.set 5 (oO 0 [vR 6, vI ((hr + 1) % 31), vI (bh + 1), vI (ah - 1)])).set 2 (oI 1060 (rw_ ((hr + 1) % 31)))) ((hr + 1) % 31) (bh + 1) (ah - 1) sl rw_ → Q (some (vI 1)) ((h.set 5 (oO 0 [vR 6, vI ((hr + 1) % 31), vI (bh + 1), vI (ah - 1)])).set 2 (oI 1060 (rw_ ((hr + 1) % 31))))) : Cl X kX0_stepOn [vR 5, vR 1] h Q := by
  have H' := H
  obtain ⟨h5, h6, hb, H4, H5, H6⟩ := H'
  refine cl_of rfl (Nat.le_of_ble_eq_true rfl) rfl ?_
  refine wp_aload_n dX0_stepOn_0 rfl ?_
  refine wp_getf dX0_stepOn_1 fX0_21 h5 rfl ?_
  refine wp_if_ne 9 dX0_stepOn_4 rfl (by unfold r32; omega) (fun c4 => ?_) (fun c4 => ?_)
  · obtain ⟨q0, q1, fs, q2, q3⟩ := id hS
    refine wp_aload_n dX0_stepOn_9 rfl ?_
    refine wp_dup dX0_stepOn_10 rfl ?_
    refine wp_getf dX0_stepOn_11 fX0_21 h5 rfl ?_
    refine wp_iconst dX0_stepOn_14 ?_
    refine wp_isub dX0_stepOn_15 ?_
    refine wp_putv (fs' := [vR 6, vI hr, vI bh, vI (ah - 1)]) dX0_stepOn_16 (pX0_21 rfl) h5 (Nat.le_of_ble_eq_true rfl) (fitF_int _) rfl ?_
    refine wp_aload_n dX0_stepOn_19 rfl ?_
    refine wp_dup dX0_stepOn_20 rfl ?_
    refine wp_getf dX0_stepOn_21 fX0_17 (gs_eq (gs_lt h5)) rfl ?_
    refine wp_iconst dX0_stepOn_24 ?_
    refine wp_iadd dX0_stepOn_25 ?_
    refine wp_putv (fs' := [vR 6, vI hr, vI (bh + 1), vI (ah - 1)]) dX0_stepOn_26 (pX0_17 rfl) (gs_eq (gs_lt h5)) (Nat.le_of_ble_eq_true rfl) (fitF_int _) rfl ?_
    rw [List.set_set]
    refine wp_aload_n dX0_stepOn_29 rfl ?_
    refine wp_aload_n dX0_stepOn_30 rfl ?_
    refine wp_getf dX0_stepOn_31 fX0_28 (gs_eq (gs_lt h5)) rfl ?_
    refine wp_iconst dX0_stepOn_34 ?_
    refine wp_iadd dX0_stepOn_35 ?_
    refine wp_bipush dX0_stepOn_36 rfl ?_
    refine wp_iremn dX0_stepOn_38 (by unfold r32; omega) (by unfold r32; omega) (by omega) (by omega) ?_
    refine wp_aload_n dX0_stepOn_39 rfl ?_
    obtain ⟨s, hs⟩ := H6 1 (by omega)
    have q := H4 _ (by omega) s hs
    have hH := HH.st (r := rw_ ((hr + 1) % 31)) (hr' := (hr + 1) % 31) (bh' := bh + 1) (ah' := ah - 1) H (by omega) (fun d hd => by
      have := H6 (d + 1) (by omega)
      rw [show (hr + (d + 1)) % 31 = ((hr + 1) % 31 + d) % 31 by omega] at this
      exact this)
    refine wp_iv2 dX0_stepOn_40 VX0_stepTo lX0_43 (gs_eq (gs_lt h5)) (rq0 rfl rfl) (Nat.le_of_ble_eq_true rfl) (C_stepTo (s := s) (sa_mk (by decide) (gs_ne (by decide) q2) q3 (gs_ne (by decide) h2)) (gs_eq (gs_lt h5)) (gs_ne (by decide) h6) (gs_ne (by decide) h2) (by omega) hs (by omega) (gs_ne (by omega) q.2.1) q.2.2 hg ?_)
    dsimp only [pushR]
    rw [List.set_set]
    exact wp_zret dX0_stepOn_43 rfl (Or.inr rfl) (hQ c4 hH)
  · refine wp_iconst dX0_stepOn_7 ?_
    exact wp_zret dX0_stepOn_8 rfl (Or.inl rfl) (hQ0 c4)
set_option maxHeartbeats 1000000 in
theorem C_begin (H : HH h hr bh ah sl rw_) (hS : SA 5 1 2 h) (h2 : h[2]? = some (oI 1060 g)) (hg : SmZ g) (hlen : h.length = 7 ∨ 70 ≤ h.length)
    (hQ : ∀ h' sl', HH h' hr 0 0 sl' (udR rw_ hr g) → FH h h' sl sl' → Q none h') : Cl X kX0_begin [vR 5, vR 1] h Q := by
  have H' := H
  obtain ⟨h5, h6, hb, H4, H5, H6⟩ := H'
  refine cl_of rfl (Nat.le_of_ble_eq_true rfl) rfl ?_
  refine wp_aload_n dX0_begin_0 rfl ?_
  refine wp_iconst dX0_begin_1 ?_
  refine wp_putv (fs' := [vR 6, vI hr, vI 0, vI ah]) dX0_begin_2 (pX0_17 rfl) h5 (Nat.le_of_ble_eq_true rfl) (fitF_int _) rfl ?_
  refine wp_aload_n dX0_begin_5 rfl ?_
  refine wp_iconst dX0_begin_6 ?_
  refine wp_putv (fs' := [vR 6, vI hr, vI 0, vI 0]) dX0_begin_7 (pX0_21 rfl) (gs_eq (gs_lt h5)) (Nat.le_of_ble_eq_true rfl) (fitF_int _) rfl ?_
  rw [List.set_set]
  refine wp_aload_n dX0_begin_10 rfl ?_
  refine wp_aload_n dX0_begin_11 rfl ?_
  obtain ⟨q0, q1, fs, q2, q3⟩ := id hS
  have k5 := gs_eq (c := oO 0 [vR 6, vI hr, vI 0, vI 0]) (gs_lt h5)
  have e1 : ∀ i, i ≠ 5 → (h.set 5 (oO 0 [vR 6, vI hr, vI 0, vI 0]))[i]? = h[i]? := fun i hi => List.getElem?_set_ne (Ne.symm hi)
  refine wp_iv1 dX0_begin_12 VX0_keepHere lX0_24 k5 (rq1 (0, 0) rfl (by decide) (by decide)) (Nat.le_of_ble_eq_true rfl) (C_keepHere (sa_mk (by decide) (gs_ne (by decide) q2) q3 (gs_ne (by decide) h2)) k5 (gs_ne (by decide) h6) (gs_ne (by decide) h2) ⟨hb.1, hb.2.1⟩ hg (fun s hs => ?_) (fun h' sl' k => ?_))
  · have q := H4 _ ⟨hb.1, hb.2.1⟩ s hs
    exact ⟨by omega, by omega, _, gs_ne (by omega) q.2.1, q.2.2⟩
  · dsimp only [pushR]
    exact wp_ret dX0_begin_15 rfl (hQ h' sl' (HH.kp H k5 List.length_set e1 ⟨hb.1, hb.2.1, by omega, by omega, by omega⟩ hlen hg (fun d hd => Or.inl (by omega)) k) (FH.kp H List.length_set e1 ⟨hb.1, hb.2.1⟩ k))
/-- answers of acts that were done -/
def dOn (v : Int) : Prop := 0 ≤ v ∨ v = -4 ∨ v = -6
set_option maxHeartbeats 1000000 in
theorem C_noted {v : Int} (hv : r32 v) (h0 : h[0]? = some (oO 6 (cF sp kp))) (H : HH h hr bh ah sl rw_) (hS : SA 5 1 2 h) (h2 : h[2]? = some (oI 1060 g)) (hg : SmZ g) (hlen : 70 ≤ h.length)
    (hQ0 : ¬ dOn v → Q (some (vI v)) h) (hQ : dOn v → ∀ h' sl', HH h' ((hr + 1) % 31) (if bh + 1 ≤ 30 then bh + 1 else 30) 0 sl' (udR rw_ ((hr + 1) % 31) g) → FH h h' sl sl' → Q (some (vI v)) h') : Cl X kX6_noted [vR 0, vI v] h Q := by
  obtain ⟨q0, q1, fs, q2, q3⟩ := id hS
  have don : dOn v → Wp X kX6_noted 16 [some (vR 0), some (vI v)] [] h (1, 1060) Q := fun hd => by
    refine wp_aload_n dX6_noted_16 rfl ?_
    refine wp_getf dX6_noted_17 fX6_22 h0 rfl ?_
    refine wp_aload_n dX6_noted_20 rfl ?_
    refine wp_getf dX6_noted_21 fX6_10 h0 rfl ?_
    refine wp_iv1 dX6_noted_24 VX0_note lX6_310 H.1 (rq1 (0, 0) rfl (by decide) (by decide)) (Nat.le_of_ble_eq_true rfl) (C_note H hS h2 hg (Or.inr hlen) (fun h' sl' k1 k2 => ?_))
    dsimp only [pushR]
    refine wp_iload_n dX6_noted_27 rfl ?_
    exact wp_iret dX6_noted_28 rfl (hQ hd h' sl' k1 k2)
  refine cl_of rfl (Nat.le_of_ble_eq_true rfl) rfl ?_
  refine wp_iload_n dX6_noted_0 rfl ?_
  refine wp_if_ge 16 dX6_noted_1 rfl hv (fun c1 => don (Or.inl c1)) (fun c1 => ?_)
  refine wp_iload_n dX6_noted_4 rfl ?_
  refine wp_bipush dX6_noted_5 rfl ?_
  refine wp_icmp_eq 16 dX6_noted_7 rfl hv ⟨by omega, by omega⟩ (fun c2 => don (Or.inr (Or.inl c2))) (fun c2 => ?_)
  refine wp_iload_n dX6_noted_10 rfl ?_
  refine wp_bipush dX6_noted_11 rfl ?_
  refine wp_icmp_ne 27 dX6_noted_13 rfl hv ⟨by omega, by omega⟩ (fun c3 => ?_) (fun c3 => don (Or.inr (Or.inr c3)))
  refine wp_iload_n dX6_noted_27 rfl ?_
  exact wp_iret dX6_noted_28 rfl (hQ0 (fun q => by unfold dOn at q; omega))
set_option maxHeartbeats 1000000 in
theorem C_cundo (h0 : h[0]? = some (oO 6 (cF sp kp))) (H : HH h hr bh ah sl rw_) (hS : SA 5 1 2 h) (h2 : h[2]? = some (oI 1060 g)) (hg : SmZ g) (hQ0 : bh = 0 → Q (some (vI (-5))) h)
    (hQ : bh ≠ 0 → HH ((h.set 5 (oO 0 [vR 6, vI ((hr + 31 - 1) % 31), vI (bh - 1), vI (ah + 1)])).set 2 (oI 1060 (rw_ ((hr + 31 - 1) % 31)))) ((hr + 31 - 1) % 31) (bh - 1) (ah + 1) sl rw_ → Q (some (vI (bh - 1))) ((h.set 5 (oO 0 [vR 6, vI ((hr + 31 - 1) % 31), vI (bh - 1), vI (ah + 1)])).set 2 (oI 1060 (rw_ ((hr + 31 - 1) % 31))))) : Cl X kX6_undo [vR 0] h Q := by
  refine cl_of rfl (Nat.le_of_ble_eq_true rfl) rfl ?_
  refine wp_aload_n dX6_undo_0 rfl ?_
  refine wp_getf dX6_undo_1 fX6_22 h0 rfl ?_
  refine wp_aload_n dX6_undo_4 rfl ?_
  refine wp_getf dX6_undo_5 fX6_10 h0 rfl ?_
  refine wp_iv1 dX6_undo_8 VX0_stepBack lX6_128 H.1 (rq0 rfl rfl) (Nat.le_of_ble_eq_true rfl) (C_stepBack H hS h2 hg (fun c => ?_) (fun c k => ?_))
  · dsimp only [pushR]
    refine wp_if_eq 24 dX6_undo_11 rfl ⟨by omega, by omega⟩ (fun c11 => ?_) (fun c11 => absurd rfl c11)
    refine wp_bipush dX6_undo_24 rfl ?_
    exact wp_iret dX6_undo_26 rfl (hQ0 c)
  · dsimp only [pushR]
    refine wp_if_eq 24 dX6_undo_11 rfl ⟨by omega, by omega⟩ (fun c11 => absurd c11 (by omega)) (fun c11 => ?_)
    refine wp_aload_n dX6_undo_14 rfl ?_
    refine wp_getf dX6_undo_15 fX6_22 (gs_ne (by decide) (gs_ne (by decide) h0)) rfl ?_
    refine wp_getf dX6_undo_18 fX6_132 k.1 rfl ?_
    refine wp_goto 26 dX6_undo_21 rfl ?_
    exact wp_iret dX6_undo_26 rfl (hQ c k)
set_option maxHeartbeats 1000000 in
theorem C_credo (h0 : h[0]? = some (oO 6 (cF sp kp))) (H : HH h hr bh ah sl rw_) (hS : SA 5 1 2 h) (h2 : h[2]? = some (oI 1060 g)) (hg : SmZ g) (hQ0 : ah = 0 → Q (some (vI (-5))) h)
    (hQ : ah ≠ 0 → HH ((h.set 5 (oO 0 [vR 6, vI ((hr + 1) % 31), vI (bh + 1), vI (ah - 1)])).set 2 (oI 1060 (rw_ ((hr + 1) % 31)))) ((hr + 1) % 31) (bh + 1) (ah - 1) sl rw_ → Q (some (vI (ah - 1))) ((h.set 5 (oO 0 [vR 6, vI ((hr + 1) % 31), vI (bh + 1), vI (ah - 1)])).set 2 (oI 1060 (rw_ ((hr + 1) % 31))))) : Cl X kX6_redo [vR 0] h Q := by
  refine cl_of rfl (Nat.le_of_ble_eq_true rfl) rfl ?_
  refine wp_aload_n dX6_redo_0 rfl ?_
  refine wp_getf dX6_redo_1 fX6_22 h0 rfl ?_
  refine wp_aload_n dX6_redo_4 rfl ?_
  refine wp_getf dX6_redo_5 fX6_10 h0 rfl ?_
  refine wp_iv1 dX6_redo_8 VX0_stepOn lX6_136 H.1 (rq0 rfl rfl) (Nat.le_of_ble_eq_true rfl) (C_stepOn H hS h2 hg (fun c => ?_) (fun c k => ?_))
  · dsimp only [pushR]
    refine wp_if_eq 24 dX6_redo_11 rfl ⟨by omega, by omega⟩ (fun c11 => ?_) (fun c11 => absurd rfl c11)
    refine wp_bipush dX6_redo_24 rfl ?_
    exact wp_iret dX6_redo_26 rfl (hQ0 c)
  · dsimp only [pushR]
    refine wp_if_eq 24 dX6_redo_11 rfl ⟨by omega, by omega⟩ (fun c11 => absurd c11 (by omega)) (fun c11 => ?_)
    refine wp_aload_n dX6_redo_14 rfl ?_
    refine wp_getf dX6_redo_15 fX6_22 (gs_ne (by decide) (gs_ne (by decide) h0)) rfl ?_
    refine wp_getf dX6_redo_18 fX6_139 k.1 rfl ?_
    refine wp_goto 26 dX6_redo_21 rfl ?_
    exact wp_iret dX6_redo_26 rfl (hQ c k)
end HT
