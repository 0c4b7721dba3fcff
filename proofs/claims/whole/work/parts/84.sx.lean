/-! saving to shelves, the reference's face; both -/
section SX
variable {X : XS} {h : AH} {Q : Option AV → AH → Prop} {sp kp : AV} {Rc : Int → Int → Int} {Zc : Int → Int} {f g Kp : Int → Int} {dn km ln ik B : Int} {T P PS R Z I : Int → Int} {fs : List AV}
set_option maxHeartbeats 1000000 in
theorem lp_rsave {d i a n at_ ft ac mn om fw mo un : Int} {b : Nat × Nat} (ha : 0 ≤ a ∧ a < 6) (hI : IM B g) (hBB : B ≤ 8000000) : ∀ (m : Nat) (k z y : Int) (yv : Option AV) (R : Int → Int), k + m = 10 → 0 ≤ k → 0 ≤ z → z + cnL (g 0) (fun j => g (eA a j)) m k ≤ 160 → h[51]? = some (oO 7 (mF dn km ln at_ ft ac mn om fw mo un ik)) → h[52]? = some (oI 1014 g) → h[67]? = some (oL 160 R) → Q (some (vI n)) (h.set 67 (oL 160 (svL (g 0) (fun j => g (eA a j)) (fun j => 1000000 * g (eA a j + 2) + 1000 * j + g (eA a j + 1)) m k z R))) → Wp X kX7_save 67 [some (vR 51), some (vI d), some (vI i), some (vI a), some (vI n), some (vI z), some (vI k), yv] [] h b Q := by
  have hR := hI.r (by omega)
  intro m
  induction m generalizing h with
  | zero =>
    intro k z y yv R q1 q2 q3 q4 m51 m52 m67 hQ
    refine wp_iload dX7_save_67 rfl ?_
    refine wp_bipush dX7_save_69 rfl ?_
    refine wp_icmp_ge 140 dX7_save_71 rfl (by first | assumption | exact hR _ | exact bI_r _ | (unfold r32; omega)) ⟨by omega, by omega⟩ (fun c71 => ?_) (fun c71 => ?_)
    · refine wp_iload dX7_save_140 rfl ?_
      exact wp_iret dX7_save_142 rfl (by unfold svL at hQ; rw [set_same m67] at hQ; exact hQ)
    · exfalso; omega
  | succ m ih =>
    intro k z y yv R q1 q2 q3 q4 m51 m52 m67 hQ
    have cb := cnL_b (g 0) (fun j => g (eA a j)) m (k + 1)
    have pe := eA_b ha (show 0 ≤ k ∧ k < 10 by omega)
    unfold svL at hQ
    unfold cnL at q4
    refine wp_iload dX7_save_67 rfl ?_
    refine wp_bipush dX7_save_69 rfl ?_
    refine wp_icmp_ge 140 dX7_save_71 rfl (by first | assumption | exact hR _ | exact bI_r _ | (unfold r32; omega)) ⟨by omega, by omega⟩ (fun c71 => ?_) (fun c71 => ?_)
    · refine wp_iload dX7_save_140 rfl ?_
      exact wp_iret dX7_save_142 rfl (False.elim (by omega))
    · refine wp_iload_n dX7_save_74 rfl ?_
      refine wp_iload dX7_save_75 rfl ?_
      refine wp_is2 dX7_save_77 SX7_entryAt lX7_112 (rq0 rfl rfl) (Nat.le_of_ble_eq_true rfl) (C_entryAt ?_)
      dsimp only [pushR]
      refine wp_istore (L' := [some (vR 51), some (vI d), some (vI i), some (vI a), some (vI n), some (vI z), some (vI k), some (vI (eA a k))]) dX7_save_80 (by decide) rfl ?_
      refine wp_aload_n dX7_save_82 rfl ?_
      refine wp_iload dX7_save_83 rfl ?_
      refine wp_iv1 dX7_save_85 VX7_isThere lX7_115 m51 (rq0 rfl rfl) (Nat.le_of_ble_eq_true rfl) (sa_of m52 (C_isThere (sa_mk (by decide) m51 rfl m52) (by omega) rfl rfl (hR _) (hR _) ?_))
      dsimp only [pushR]
      rw [set_same m52]
      refine wp_beq 134 dX7_save_88 rfl (fun c88 => ?_) (fun c88 => ?_)
      · refine wp_iinc (L' := [some (vR 51), some (vI d), some (vI i), some (vI a), some (vI n), some (vI z), some (vI (k + 1)), some (vI (eA a k))]) dX7_save_134 rfl rfl ?_
        refine wp_goto 67 dX7_save_137 rfl ?_
        rw [if_neg (by assumption)] at hQ q4
        exact ih (k + 1) z 0 _ _ (by omega) (by omega) (by omega) (by omega) m51 m52 m67 hQ
      · refine wp_aload_n dX7_save_91 rfl ?_
        refine wp_getf dX7_save_92 fX7_73 m51 rfl ?_
        refine wp_iload dX7_save_95 rfl ?_
        refine wp_ldc2 dX7_save_97 cX7_342 ?_
        refine wp_aload_n dX7_save_100 rfl ?_
        refine wp_getf dX7_save_101 fX7_9 m51 rfl ?_
        refine wp_iload dX7_save_104 rfl ?_
        refine wp_iconst dX7_save_106 ?_
        refine wp_iadd dX7_save_107 ?_
        refine wp_iav (v := g (eA a k + 2)) dX7_save_108 m52 (by decide) (by omega) rfl ?_
        refine wp_i2l dX7_save_109 (by first | assumption | exact hR _ | exact bI_r _ | (unfold r32; omega)) ?_
        refine wp_lmul dX7_save_110 ?_
        refine wp_ldc2 dX7_save_111 cX7_212 ?_
        refine wp_iload dX7_save_114 rfl ?_
        refine wp_i2l dX7_save_116 (by first | assumption | exact hR _ | exact bI_r _ | (unfold r32; omega)) ?_
        refine wp_lmul dX7_save_117 ?_
        refine wp_ladd dX7_save_118 ?_
        refine wp_aload_n dX7_save_119 rfl ?_
        refine wp_getf dX7_save_120 fX7_9 m51 rfl ?_
        refine wp_iload dX7_save_123 rfl ?_
        refine wp_iconst dX7_save_125 ?_
        refine wp_iadd dX7_save_126 ?_
        refine wp_iav (v := g (eA a k + 1)) dX7_save_127 m52 (by decide) (by omega) rfl ?_
        refine wp_i2l dX7_save_128 (by first | assumption | exact hR _ | exact bI_r _ | (unfold r32; omega)) ?_
        refine wp_ladd dX7_save_129 ?_
        refine wp_lsv dX7_save_130 m67 (by decide) (by omega) ?_
        refine wp_iinc (L' := [some (vR 51), some (vI d), some (vI i), some (vI a), some (vI n), some (vI (z + 1)), some (vI k), some (vI (eA a k))]) dX7_save_131 rfl rfl ?_
        refine wp_iinc (L' := [some (vR 51), some (vI d), some (vI i), some (vI a), some (vI n), some (vI (z + 1)), some (vI (k + 1)), some (vI (eA a k))]) dX7_save_134 rfl rfl ?_
        refine wp_goto 67 dX7_save_137 rfl ?_
        rw [if_pos (by assumption)] at hQ q4
        exact ih (k + 1) (z + 1) 0 _ _ (by omega) (by omega) (by omega) (by omega) (gs_ne (by decide) m51) (gs_ne (by decide) m52) (gs_eq (gs_lt m67)) (by rw [List.set_set]; exact hQ)
set_option maxHeartbeats 1000000 in
theorem C_rsave {d i a : Int} (hM : MV h g Kp dn km T ln P PS R Z I ik) (rd : r32 d) (ri : r32 i) (ra : r32 a) (hZ : ∀ j, -1 ≤ Z j ∧ Z j ≤ 40) (hI : IM B g) (hBB : B ≤ 8000000) (hQ0 : ¬ ((0 ≤ d ∧ d ≤ 3) ∧ 0 ≤ a ∧ a ≤ 5) → Q (some (vI (-1))) h) (hQ1 : (0 ≤ d ∧ d ≤ 3) ∧ 0 ≤ a ∧ a ≤ 5 → Z d = -1 → Q (some (vI (-11))) h) (hQ2 : (0 ≤ d ∧ d ≤ 3) ∧ 0 ≤ a ∧ a ≤ 5 → Z d ≠ -1 → ¬ (0 ≤ i ∧ i ≤ Z d - entN g a) → Q (some (vI (-13))) h)
    (hQ : (0 ≤ d ∧ d ≤ 3) ∧ 0 ≤ a ∧ a ≤ 5 → Z d ≠ -1 → 0 ≤ i ∧ i ≤ Z d - entN g a → Q (some (vI (entN g a))) (h.set 67 (oL 160 (svL (g 0) (fun j => g (eA a j)) (fun j => 1000000 * g (eA a j + 2) + 1000 * j + g (eA a j + 1)) 10 0 (40 * d + i) R)))) : Cl X kX7_save [vR 51, vI d, vI i, vI a] h Q := by
  refine cl_of rfl (Nat.le_of_ble_eq_true rfl) rfl ?_
  have hR := hI.r (by omega)
  have hz := hZ d
  have hbc := entN_b g a
  have hce : entN g a = 0 + cnL (g 0) (fun j => g (eA a j)) 10 0 := entL_cn g a 10 0 0
  obtain ⟨⟨at_, ft, ac, mn, om, fw, mo, un, m51⟩, m52, m53, m54, -, m56, m57, -, -, -, -, -, -, -, -, m67, m68, m69, -⟩ := id hM
  refine wp_iload_n dX7_save_0 rfl ?_
  refine wp_is1 dX7_save_1 SX7_isShelf lX7_323 (rq0 rfl rfl) (Nat.le_of_ble_eq_true rfl) (C_isShelf (by first | assumption | exact hR _ | exact bI_r _ | (unfold r32; omega)) ?_)
  dsimp only [pushR]
  refine wp_beq 14 dX7_save_4 rfl (fun c4 => ?_) (fun c4 => ?_)
  · refine wp_iconst dX7_save_14 ?_
    exact wp_iret dX7_save_15 rfl (by first | exact hQ0 (by omega) | exact hQ1 (by omega) (by omega) | exact hQ2 (by omega) (by omega) (by omega))
  · refine wp_iload_n dX7_save_7 rfl ?_
    refine wp_is1 dX7_save_8 SX7_isGroup lX7_187 (rq0 rfl rfl) (Nat.le_of_ble_eq_true rfl) (C_isGroup (by first | assumption | exact hR _ | exact bI_r _ | (unfold r32; omega)) ?_)
    dsimp only [pushR]
    refine wp_bne 16 dX7_save_11 rfl (fun c11 => ?_) (fun c11 => ?_)
    · refine wp_aload_n dX7_save_16 rfl ?_
      refine wp_getf dX7_save_17 fX7_76 m51 rfl ?_
      refine wp_iload_n dX7_save_20 rfl ?_
      refine wp_iav (v := Z d) dX7_save_21 m68 (by decide) (by omega) rfl ?_
      refine wp_iconst dX7_save_22 ?_
      refine wp_icmp_ne 29 dX7_save_23 rfl (by first | assumption | exact hR _ | exact bI_r _ | (unfold r32; omega)) ⟨by omega, by omega⟩ (fun c23 => ?_) (fun c23 => ?_)
      · refine wp_aload_n dX7_save_29 rfl ?_
        refine wp_iload_n dX7_save_30 rfl ?_
        refine wp_iv1 dX7_save_31 VX7_entriesIn lX7_131 m51 (rq0 rfl rfl) (Nat.le_of_ble_eq_true rfl) (sa_of m52 (C_entriesIn (sa_mk (by decide) m51 rfl m52) hR (by omega) ?_))
        dsimp only [pushR]
        rw [set_same m52]
        refine wp_istore (L' := [some (vR 51), some (vI d), some (vI i), some (vI a), some (vI (entN g a)), none, none, none]) dX7_save_34 (by decide) rfl ?_
        refine wp_iload_n dX7_save_36 rfl ?_
        refine wp_if_lt 53 dX7_save_37 rfl (by first | assumption | exact hR _ | exact bI_r _ | (unfold r32; omega)) (fun c37 => ?_) (fun c37 => ?_)
        · refine wp_bipush dX7_save_53 rfl ?_
          exact wp_iret dX7_save_55 rfl (by first | exact hQ0 (by omega) | exact hQ1 (by omega) (by omega) | exact hQ2 (by omega) (by omega) (by omega))
        · refine wp_iload_n dX7_save_40 rfl ?_
          refine wp_aload_n dX7_save_41 rfl ?_
          refine wp_getf dX7_save_42 fX7_76 m51 rfl ?_
          refine wp_iload_n dX7_save_45 rfl ?_
          refine wp_iav (v := Z d) dX7_save_46 m68 (by decide) (by omega) rfl ?_
          refine wp_iload dX7_save_47 rfl ?_
          refine wp_isub dX7_save_49 ?_
          refine wp_icmp_le 56 dX7_save_50 rfl (by first | assumption | exact hR _ | exact bI_r _ | (unfold r32; omega)) (by first | assumption | exact hR _ | exact bI_r _ | (unfold r32; omega)) (fun c50 => ?_) (fun c50 => ?_)
          · refine wp_bipush dX7_save_56 rfl ?_
            refine wp_iload_n dX7_save_58 rfl ?_
            refine wp_imul dX7_save_59 ?_
            refine wp_iload_n dX7_save_60 rfl ?_
            refine wp_iadd dX7_save_61 ?_
            refine wp_istore (L' := [some (vR 51), some (vI d), some (vI i), some (vI a), some (vI (entN g a)), some (vI (40 * d + i)), none, none]) dX7_save_62 (by decide) rfl ?_
            refine wp_iconst dX7_save_64 ?_
            refine wp_istore (L' := [some (vR 51), some (vI d), some (vI i), some (vI a), some (vI (entN g a)), some (vI (40 * d + i)), some (vI 0), none]) dX7_save_65 (by decide) rfl ?_
            exact lp_rsave (by omega) hI hBB 10 0 (40 * d + i) 0 _ _ (by omega) (by omega) (by omega) (by omega) m51 m52 m67 (hQ (by omega) (by omega) (by omega))
          · refine wp_bipush dX7_save_53 rfl ?_
            exact wp_iret dX7_save_55 rfl (by first | exact hQ0 (by omega) | exact hQ1 (by omega) (by omega) | exact hQ2 (by omega) (by omega) (by omega))
      · refine wp_bipush dX7_save_26 rfl ?_
        exact wp_iret dX7_save_28 rfl (by first | exact hQ0 (by omega) | exact hQ1 (by omega) (by omega) | exact hQ2 (by omega) (by omega) (by omega))
    · refine wp_iconst dX7_save_14 ?_
      exact wp_iret dX7_save_15 rfl (by first | exact hQ0 (by omega) | exact hQ1 (by omega) (by omega) | exact hQ2 (by omega) (by omega) (by omega))
/-- what saving answers and leaves, alike -/
theorem A_save {d i a : Int} (h : Sm0 f g) (ha : 0 ≤ a ∧ a < 6) (hd : 0 ≤ d ∧ d < 4) (hS : SHR Rc R Zc Z) (hZ : ∀ j, Z j ≤ 40) (hi : 0 ≤ i) (hz : i + entN g a ≤ Z d) : bc10 (wEk f a) = entN g a ∧ SHR (udR Rc d (svL (f 0) (fun j => f (sA a j + 5)) (fun j => f (sA a j + 1) * 1000000 + j * 1000 + f (sA a j + 0)) 10 0 i (Rc d))) (svL (g 0) (fun j => g (eA a j)) (fun j => 1000000 * g (eA a j + 2) + 1000 * j + g (eA a j + 1)) 10 0 (40 * d + i) R) Zc Z := by
  have e := bcE_eq h ha
  have A0 := h.A
  unfold SmA at A0
  have hP : ∀ j, 0 ≤ j → j < 10 → (f 0 < f (sA a j + 5) ↔ g 0 < g (eA a j)) ∧ f (sA a j + 1) * 1000000 + j * 1000 + f (sA a j + 0) = 1000000 * g (eA a j + 2) + 1000 * j + g (eA a j + 1) := fun j q1 q2 => by
    have q := h.S a j ha ⟨q1, q2⟩
    obtain ⟨s0, s1, -, -, -, s5, -⟩ := q
    rw [s0, s1]
    unfold EA at s5
    omega
  have hce : entN g a = 0 + cnL (g 0) (fun j => g (eA a j)) 10 0 := entL_cn g a 10 0 0
  have hcc := cnL_eq (x := f 0) (x' := g 0) (y := fun j => f (sA a j + 5)) (y' := fun j => g (eA a j)) 10 0 (by omega) (by omega) (fun j q1 q2 => (hP j q1 q2).1)
  have w := svL_eq (d := d) (hZ d) (x := f 0) (x' := g 0) (y := fun j => f (sA a j + 5)) (y' := fun j => g (eA a j)) (v := fun j => f (sA a j + 1) * 1000000 + j * 1000 + f (sA a j + 0)) (v' := fun j => 1000000 * g (eA a j + 2) + 1000 * j + g (eA a j + 1)) 10 0 i (Rc d) R (by omega) (by omega) hi (by omega) hP (fun j hj => hS.1 d j hd hj)
  refine ⟨e, fun d' j hd' hj => ?_, hS.2⟩
  unfold udR
  split
  · rename_i c
    rw [c] at hj ⊢
    exact w.1 j hj
  · have hz' := hZ d'
    rw [w.2 _ (by omega)]
    exact hS.1 d' j hd' hj
theorem A_saveN {a : Int} (h : Sm0 f g) (ha : 0 ≤ a ∧ a < 6) : bc10 (wEk f a) = cnL (f 0) (fun j => f (sA a j + 5)) 10 0 := by
  have A0 := h.A
  unfold SmA at A0
  have hce : entN g a = 0 + cnL (g 0) (fun j => g (eA a j)) 10 0 := entL_cn g a 10 0 0
  rw [bcE_eq h ha, hce, Int.zero_add]
  refine (cnL_eq 10 0 (by omega) (by omega) (fun j q1 q2 => ?_)).symm
  have q := h.S a j ha ⟨q1, q2⟩
  obtain ⟨-, -, -, -, -, s5, -⟩ := q
  unfold EA at s5
  omega
end SX
