/-! settled, the reference's face -/
section CH
variable {X : XS} {h : AH} {Q : Option AV → AH → Prop} {f g Kp : Int → Int} {dn km ln ik B : Int} {T P PS R Z I : Int → Int}
theorem zm_ap {r : Int} {g : Int → Int} (hI : IM B g) (hP : PM g) (hZ : ZM g) (hr : 0 ≤ r ∧ r < 3) : ZM (spApply g r).2 := by
  have n2 := hI.n60 (j := 2) (by omega)
  have nr := hI.n60 (j := 10 + r) (by omega)
  have pl := hP r hr
  unfold spApply
  split
  · exact hZ
  · have hk := apK_b hI hr (by omega)
    have z3 : ZM (ap3 g r) := by
      unfold ap3 ap1
      exact zm_del (zm_del (zm_ud hZ (by omega)) (by omega) hk) (by omega) hk
    split
    · exact zm_ud z3 (by omega)
    · exact z3
theorem zm_spR {r : Int} (hr : 0 ≤ r ∧ r < 3) : ∀ (m : Nat) (B : Int) (f g : Int → Int), AW B f g → 1000 ≤ B → ZM g → ZM (spR r m g) := by
  intro m
  induction m with
  | zero => intro B f g _ _ h; exact h
  | succ m ih => intro B f g h hB hz; exact ih (B + 500) _ _ (aw_st h hB hr) (by omega) (zm_ap h.2.1 h.2.2 hz hr)
theorem zm_gaL : ∀ (m : Nat) (r n B : Int) (f g : Int → Int), r + m = 3 → 0 ≤ r → AW B f g → 1000 ≤ B → ZM g → ZM (gaL m r n g).2 := by
  intro m
  induction m with
  | zero => intro r n B f g _ _ _ _ h; exact h
  | succ m ih =>
    intro r n B f g h1 h2 h hB hz
    have bb := aw_b (r := r) h (by omega)
    have w := aw_R (r := r) (by omega) (g 2 - g (10 + r)).toNat B f g h hB
    have w2 : AW (B + 30000) (apR r (g 2 - g (10 + r)).toNat f) (spR r (g 2 - g (10 + r)).toNat g) := ⟨w.1, w.2.1.up (by omega), w.2.2⟩
    unfold gaL
    exact ih (r + 1) _ (B + 30000) _ _ (by omega) (by omega) w2 (by omega) (zm_spR (by omega) _ B f g h hB hz)
theorem cp_back {f0 g' : Int → Int} (hz : ZM g) (hz' : ZM g') : cpI (cpI g f0 0 0 1014) g' 0 0 1014 = g := by
  funext k
  unfold cpI
  split
  · rw [if_pos (by omega), show (0 : Int) + (0 + (k - 0) - 0) = k by omega]
  · rw [hz' k (by omega), hz k (by omega)]
theorem MV.s59 {r : Int → Int} (hM : MV h g Kp dn km T ln P PS R Z I ik) : MV (h.set 59 (oI 1014 r)) g Kp dn km T ln P PS R Z I ik := by
  obtain ⟨⟨a1, a2, a3, a4, a5, a6, a7, a8, q0⟩, q1, q2, q3, ⟨f5, q4⟩, q5, q6, ⟨f7, q7⟩, ⟨f8, q8⟩, ⟨f9, q9⟩, ⟨f10, q10⟩, ⟨f11, q11⟩, ⟨f12, q12⟩, ⟨f13, q13⟩, ⟨f14, q14⟩, q15, q16, q17, ⟨f18, q18, q19⟩⟩ := hM
  exact ⟨⟨_, _, _, _, _, _, _, _, gs_ne (by decide) q0⟩, gs_ne (by decide) q1, gs_ne (by decide) q2, gs_ne (by decide) q3, ⟨f5, gs_ne (by decide) q4⟩, gs_ne (by decide) q5, gs_ne (by decide) q6, ⟨r, gs_eq (gs_lt q7)⟩, ⟨f8, gs_ne (by decide) q8⟩, ⟨f9, gs_ne (by decide) q9⟩, ⟨f10, gs_ne (by decide) q10⟩, ⟨f11, gs_ne (by decide) q11⟩, ⟨f12, gs_ne (by decide) q12⟩, ⟨f13, gs_ne (by decide) q13⟩, ⟨f14, gs_ne (by decide) q14⟩, gs_ne (by decide) q15, gs_ne (by decide) q16, gs_ne (by decide) q17, ⟨f18, gs_ne (by decide) q18, q19⟩⟩
set_option maxHeartbeats 2000000 in
theorem C_rsettled {i : Int} (hM : MV h g Kp dn km T ln P PS R Z I ik) (hA : AW B f g) (hB : 1000 ≤ B) (hBB : B + 90000 ≤ 8000000) (hz : ZM g) (hR2 : ∀ j, r32 (PS j)) (hO : ∀ k, r32 (rOutdated (gaL 3 0 0 g).2 k)) (ri : r32 i) (hQ0 : ¬ (0 ≤ i ∧ i ≤ 3) → Q (some (vI (-1))) h) (hQ : 0 ≤ i ∧ i ≤ 3 → ∀ h', MV h' g Kp dn km T ln P PS R Z I ik → FRm h h' → Q (some (vI (rSt4 (gaL 3 0 0 g).2 (gaL 3 0 0 g).1 i))) h') : Cl X kX7_settled [vR 51, vI i] h Q := by
  refine cl_of rfl (Nat.le_of_ble_eq_true rfl) rfl ?_
  obtain ⟨⟨at_, ft, ac, mn, om, fw, mo, un, m51⟩, m52, m53, m54, -, m56, m57, ⟨fr, m59⟩, -, -, -, -, -, -, -, m67, m68, m69, -⟩ := id hM
  have hI := hA.2.1
  have w := aa_eq 3 0 0 B f g (by omega) (by omega) hA hB
  have zg := zm_gaL 3 0 0 B f g (by omega) (by omega) hA hB hz
  refine wp_iload_n dX7_settled_0 rfl ?_
  refine wp_i2l dX7_settled_1 (by first | assumption | exact hR _ | exact bI_r _ | (unfold r32; omega)) ?_
  refine wp_lconst (z := 0) dX7_settled_2 rfl ?_
  refine wp_ldc2 dX7_settled_3 cX7_195 ?_
  refine wp_is3 dX7_settled_6 SX7_in lX7_94 (rq0 rfl rfl) (Nat.le_of_ble_eq_true rfl) (C_in (by first | assumption | exact r64_of (hR _) | (unfold r64 r32 at *; omega)) (by first | assumption | exact r64_of (hR _) | (unfold r64 r32 at *; omega)) (by first | assumption | exact r64_of (hR _) | (unfold r64 r32 at *; omega)) ?_)
  dsimp only [pushR]
  refine wp_bne 14 dX7_settled_9 rfl (fun c9 => ?_) (fun c9 => ?_)
  · refine wp_aload_n dX7_settled_14 rfl ?_
    refine wp_getf dX7_settled_15 fX7_9 m51 rfl ?_
    refine wp_iconst dX7_settled_18 ?_
    refine wp_aload_n dX7_settled_19 rfl ?_
    refine wp_getf dX7_settled_20 fX7_48 m51 rfl ?_
    refine wp_iconst dX7_settled_23 ?_
    refine wp_sipush dX7_settled_24 rfl ?_
    refine wp_copyi dX7_settled_27 aX7_86 m52 m59 (by decide) (by decide) (by omega) (by omega) (by omega) (by omega) (by omega) (Nat.le_of_ble_eq_true rfl) (Nat.le_of_ble_eq_true rfl) ?_
    refine wp_iconst dX7_settled_30 ?_
    refine wp_istore_n (L' := [some (vR 51), some (vI i), some (vI 0), none]) dX7_settled_31 (by decide) rfl ?_
    refine wp_iconst dX7_settled_32 ?_
    refine wp_istore_n (L' := [some (vR 51), some (vI i), some (vI 0), some (vI 0)]) dX7_settled_33 (by decide) rfl ?_
    have M1 : MV (h.set 59 (oI 1014 (cpI g fr 0 0 1014))) g Kp dn km T ln P PS R Z I ik := MV.s59 hM
    have e52 := set_same M1.2.1
    rw [← e52]
    refine lp_ga (MV.sa M1) 3 0 0 B f g (by omega) (by omega) hA hB (by omega) ?_
    refine lp_s61 (MV.row M1) (gs_ne (by decide) (gs_eq (gs_lt m59))) (w.2.2.1.up (show B + 30000 * ((3 : Nat) : Int) ≤ B + 90000 by omega)) (by omega) hR2 hO ri ?_
    rw [cp_back hz zg]
    exact hQ (by omega) _ (MV.row (MV.row M1)) ((FRm.st (by decide)).tr ((FRm.st (by decide)).tr (FRm.st (by decide))))
  · refine wp_iconst dX7_settled_12 ?_
    exact wp_iret dX7_settled_13 rfl (hQ0 (by omega))
end CH
