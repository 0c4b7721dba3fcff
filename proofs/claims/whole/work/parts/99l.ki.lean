/-! foreseen, both faces -/
section KI
variable {X : XS} {h : AH} {Q : Option AV → AH → Prop} {f g Kp : Int → Int} {dn km ln ik B : Int} {T P PS R Z I : Int → Int} {b : Nat × Nat} {Rc : Int → Int → Int} {Zc : Int → Int}
theorem MV.s66 {r : Int → Int} (hM : MV h g Kp dn km T ln P PS R Z I ik) : MV (h.set 66 (oZ 10 r)) g Kp dn km T ln P PS R Z I ik := by
  obtain ⟨⟨a1, a2, a3, a4, a5, a6, a7, a8, q0⟩, q1, q2, q3, ⟨f5, q4⟩, q5, q6, ⟨f7, q7⟩, ⟨f8, q8⟩, ⟨f9, q9⟩, ⟨f10, q10⟩, ⟨f11, q11⟩, ⟨f12, q12⟩, ⟨f13, q13⟩, ⟨f14, q14⟩, q15, q16, q17, ⟨f18, q18, q19⟩⟩ := hM
  exact ⟨⟨_, _, _, _, _, _, _, _, gs_ne (by decide) q0⟩, gs_ne (by decide) q1, gs_ne (by decide) q2, gs_ne (by decide) q3, ⟨f5, gs_ne (by decide) q4⟩, gs_ne (by decide) q5, gs_ne (by decide) q6, ⟨f7, gs_ne (by decide) q7⟩, ⟨f8, gs_ne (by decide) q8⟩, ⟨f9, gs_ne (by decide) q9⟩, ⟨f10, gs_ne (by decide) q10⟩, ⟨f11, gs_ne (by decide) q11⟩, ⟨f12, gs_ne (by decide) q12⟩, ⟨f13, gs_ne (by decide) q13⟩, ⟨r, gs_eq (gs_lt q14)⟩, gs_ne (by decide) q15, gs_ne (by decide) q16, gs_ne (by decide) q17, ⟨f18, gs_ne (by decide) q18, q19⟩⟩
theorem thN_cnt {a : Int} : thN g a 10 0 0 = cnt (thR g a) := by
  show 0 + thR g a 0 + thR g a 1 + thR g a 2 + thR g a 3 + thR g a 4 + thR g a 5 + thR g a 6 + thR g a 7 + thR g a 8 + thR g a 9 = _
  unfold cnt
  omega
def rFs (R Z : Int → Int) (g : Int → Int) (d a : Int) : Int := fsL (shR R d) (g 3) (kaL (shR R d) (Z d).toNat 0).toNat 0 0 (thR g a)
set_option maxHeartbeats 2000000 in
theorem C_rforeseen {d a : Int} (hM : MV h g Kp dn km T ln P PS R Z I ik) (hZ : ∀ j, -1 ≤ Z j ∧ Z j ≤ 40) (hr6 : ∀ j, r64 (R j)) (hI : IM B g) (hBB : B ≤ 8000000) (rd : r32 d) (ra : r32 a) (hQ0 : ¬ ((0 ≤ d ∧ d < 4) ∧ 0 ≤ a ∧ a < 6) → Q (some (vI (-1))) h) (hQ1 : (0 ≤ d ∧ d < 4) ∧ 0 ≤ a ∧ a < 6 → Z d < 0 → Q (some (vI (-11))) h) (hQ : (0 ≤ d ∧ d < 4) ∧ 0 ≤ a ∧ a < 6 → ¬ Z d < 0 → ∀ h', MV h' g Kp dn km T ln P PS R Z I ik → FRm h h' → Q (some (vI (rFs R Z g d a))) h') : Cl X kX7_foreseen [vR 51, vI d, vI a] h Q := by
  refine cl_of rfl (Nat.le_of_ble_eq_true rfl) rfl ?_
  obtain ⟨⟨at_, ft, ac, mn, om, fw, mo, un, m51⟩, m52, m53, m54, -, m56, m57, -, -, -, -, -, -, -, ⟨H0, m66⟩, m67, m68, m69, -⟩ := id hM
  have zd := hZ d
  have hR := hI.r (by omega)
  have hg3 := hI.set.1
  have kb := kaL_b (shR R d) (Z d).toNat 0
  have hsee : rSee Z d = (if 0 ≤ d ∧ d ≤ 3 then if Z d = -1 then -11 else 0 else -1) := rfl
  have rsee : r32 (rSee Z d) := by unfold rSee r32; (repeat' split) <;> omega
  refine wp_iload_n dX7_foreseen_0 rfl ?_
  refine wp_is1 dX7_foreseen_1 SX7_isGroup lX7_187 (rq0 rfl rfl) (Nat.le_of_ble_eq_true rfl) (C_isGroup (by first | assumption | exact hR _ | exact bI_r _ | (unfold r32; omega)) ?_)
  dsimp only [pushR]
  refine wp_bne 9 dX7_foreseen_4 rfl (fun c4 => ?_) (fun c4 => ?_)
  · refine wp_aload_n dX7_foreseen_9 rfl ?_
    refine wp_iload_n dX7_foreseen_10 rfl ?_
    refine wp_iv1 dX7_foreseen_11 VX7_lookAtRow lX7_326 m51 (rq0 rfl rfl) (Nat.le_of_ble_eq_true rfl) (C_lookAtRow hM rd hZ ?_)
    dsimp only [pushR]
    refine wp_if_ge 23 dX7_foreseen_14 rfl (by first | assumption | (unfold r32; omega)) (fun c14 => ?_) (fun c14 => ?_)
    · refine wp_iconst dX7_foreseen_23 ?_
      refine wp_istore_n (L' := [some (vR 51), some (vI d), some (vI a), some (vI 0), none, none, none, none, none]) dX7_foreseen_24 (by decide) rfl ?_
      refine wp_iconst dX7_foreseen_25 ?_
      refine wp_istore (L' := [some (vR 51), some (vI d), some (vI a), some (vI 0), some (vI 0), none, none, none, none]) dX7_foreseen_26 (by decide) rfl ?_
      have sb : (0 ≤ d ∧ d ≤ 3) ∧ Z d ≠ -1 := by (repeat' split at hsee) <;> omega
      rw [← set_same m66]
      refine lp_hd m51 m66 m52 hI hBB (by omega) 10 0 0 H0 (by omega) (by omega) (by omega) (fun j q1 q2 => by omega) (fun H hH => ?_)
      have ag : ∀ j, 0 ≤ j ∧ j < 10 → H j = thR g a j := fun j hj => hH j hj.1 hj.2
      have h01 : b01 H := fun k hk => by rw [ag k hk]; exact thR_01 k hk
      rw [thN_cnt, ← cnt_ag ag]
      refine wp_iconst dX7_foreseen_76 ?_
      refine wp_istore (L' := [some (vR 51), some (vI d), some (vI a), some (vI (cnt H)), some (vI 0), none, none, none, none]) dX7_foreseen_77 (by decide) rfl ?_
      refine wp_iconst dX7_foreseen_79 ?_
      refine wp_istore (L' := [some (vR 51), some (vI d), some (vI a), some (vI (cnt H)), some (vI 0), some (vI 0), none, none, none]) dX7_foreseen_80 (by decide) rfl ?_
      refine lp_rf m51 m67 m68 (by omega) hZ hr6 m66 m52 hR (by omega) (Z d).toNat 0 0 H (kaL (shR R d) (Z d).toNat 0).toNat _ _ _ (by omega) (by omega) (by omega) h01 (by omega) (fun H2 => ?_)
      rw [fsL_ag _ 0 0 H (thR g a) ag (fun j q1 q2 => kaL_keys (shR R d) (Z d).toNat 0 j q1 (by omega))]
      exact hQ (by omega) (by omega) _ (MV.s66 hM) (FRm.st (by decide))
    · refine wp_aload_n dX7_foreseen_17 rfl ?_
      refine wp_iload_n dX7_foreseen_18 rfl ?_
      refine wp_iv1 dX7_foreseen_19 VX7_lookAtRow lX7_326 m51 (rq0 rfl rfl) (Nat.le_of_ble_eq_true rfl) (C_lookAtRow hM rd hZ ?_)
      dsimp only [pushR]
      exact wp_iret dX7_foreseen_22 rfl (by (repeat' split at hsee) <;> first | (exfalso; omega) | (rw [hsee]; exact hQ0 (by omega)) | (rw [hsee]; exact hQ1 (by omega) (by omega)))
  · refine wp_iconst dX7_foreseen_7 ?_
    exact wp_iret dX7_foreseen_8 rfl (hQ0 (by omega))
theorem A_foreseen {d a : Int} (hH : Sm0 f g) (ha : 0 ≤ a ∧ a < 6) (hd : 0 ≤ d ∧ d < 4) (hS : SHR Rc R Zc Z) : fsL (Rc d) (f 3) (kaL (Rc d) (Zc d).toNat 0).toNat 0 0 (thB f a) = rFs R Z g d a := by
  have zz := hS.2 d hd
  have kb := kaL_b (shR R d) (Z d).toNat 0
  have hr : ∀ j, 0 ≤ j → j < 0 + ((Z d).toNat : Int) → Rc d j = shR R d j := fun j q1 q2 => hS.1 d j hd ⟨q1, by omega⟩
  have t3 : f 3 = g 3 := hH.T 0 (by omega)
  have A0 := hH.A
  unfold SmA at A0
  unfold rFs
  rw [zz, kaL_cong (Z d).toNat 0 hr, t3, fsL_cong _ 0 0 _ (fun j q1 q2 => hr j q1 (by omega))]
  refine fsL_ag _ 0 0 _ _ (fun j hj => ?_) (fun j q1 q2 => kaL_keys (shR R d) (Z d).toNat 0 j q1 (by omega))
  have S := hH.S a j ha hj
  unfold EA at S
  unfold thB thR
  rcases Decidable.em (g 0 < g (eA a j)) with c | c
  · rw [if_pos (show f 0 < f (sA a j + 5) by omega), if_pos c]
  · rw [if_neg (show ¬ f 0 < f (sA a j + 5) by omega), if_neg c]
end KI
