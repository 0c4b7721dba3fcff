/-! keys tried, the reference -/
section KD
variable {X : XS} {h : AH} {Q : Option AV → AH → Prop} {f g g0 fr Kp : Int → Int} {dn km ln ik B at_ ft ac mn om fw mo un : Int} {T P PS R Z I : Int → Int} {b : Nat × Nat}
theorem zm_rTry {g : Int → Int} {a k : Int} (hZ : ZM g) (ha : 0 ≤ a ∧ a < 6) (hk : 0 ≤ k ∧ k < 10) : ZM (rTry g a k).2 := by
  have p2 := eA_b ha hk
  unfold rTry
  split
  · exact zm_ud (zm_ud hZ (by omega)) (by omega)
  · exact zm_fills hZ ha hk
theorem zm_trS {r : Int → Int} {a : Int} (ha : 0 ≤ a ∧ a < 6) : ∀ (m : Nat) (i n : Int) (g : Int → Int), ZM g → ZM (trS r a m i n g).2 := by
  intro m
  induction m with
  | zero => intro i n g h; exact h
  | succ m ih =>
    intro i n g h
    unfold trS
    split
    · split
      · exact ih _ _ _ (zm_rTry (zm_ud h (by omega)) ha (by omega))
      · exact h
    · exact h
set_option maxHeartbeats 2000000 in
theorem hb_step {d a t n i k : Int} {y7 y8 : Option AV} (m51 : h[51]? = some (oO 7 (mF dn km ln at_ ft ac mn om fw mo un ik))) (m52 : h[52]? = some (oI 1014 g0)) (hI : IM B g) (hBB : B + 10 ≤ 8000000) (ha : 0 ≤ a ∧ a < 6) (hk : 0 ≤ k ∧ k < 10) (hQ : ∀ y7 y8, Wp X kX7_hitsBy 30 [some (vR 51), some (vI d), some (vI a), some (vI t), some (vI (n + (rTry g a k).1)), some (vI (i + 1)), some (vI k), y7, y8] [] (h.set 52 (oI 1014 (rTry g a k).2)) b Q) : Wp X kX7_hitsBy 88 [some (vR 51), some (vI d), some (vI a), some (vI t), some (vI n), some (vI i), some (vI k), y7, y8] [] (h.set 52 (oI 1014 g)) b Q := by
  have hR := hI.r (by omega)
  have p2 := eA_b ha hk
  have n0 := hI.n0 (j := 0) (by omega)
  have b0 := hI.b 0
  have st := hI.set
  have hv := svO_b2 hI (r := a / 2) (k := k) (by omega)
  unfold rTry at hQ
  refine wp_iload_n dX7_hitsBy_88 rfl ?_
  refine wp_iload dX7_hitsBy_89 rfl ?_
  refine wp_is2 dX7_hitsBy_91 SX7_entryAt lX7_112 (rq0 rfl rfl) (Nat.le_of_ble_eq_true rfl) (C_entryAt ?_)
  dsimp only [pushR]
  refine wp_istore (L' := [some (vR 51), some (vI d), some (vI a), some (vI t), some (vI n), some (vI i), some (vI k), some (vI (eA a k)), y8]) dX7_hitsBy_94 (by decide) rfl ?_
  refine wp_aload_n dX7_hitsBy_96 rfl ?_
  refine wp_iload dX7_hitsBy_97 rfl ?_
  refine wp_iv1 dX7_hitsBy_99 VX7_isThere lX7_115 (gs_ne (by decide) m51) (rq0 rfl rfl) (Nat.le_of_ble_eq_true rfl) (sa_of (gs_eq (gs_lt m52)) (C_isThere (sa_mk (by decide) (gs_ne (by decide) m51) rfl (gs_eq (gs_lt m52))) (by omega) rfl rfl (hR _) (hR _) ?_))
  dsimp only [pushR]
  rw [set_same (gs_eq (gs_lt m52))]
  refine wp_beq 139 dX7_hitsBy_102 rfl (fun c102 => ?_) (fun c102 => ?_)
  · refine wp_aload_n dX7_hitsBy_139 rfl ?_
    refine wp_iload_n dX7_hitsBy_140 rfl ?_
    refine wp_iconst dX7_hitsBy_141 ?_
    refine wp_idivn dX7_hitsBy_142 (by first | assumption | exact hR _ | (unfold r32; omega)) ⟨by omega, by omega⟩ (by omega) (by omega) ?_
    refine wp_iload dX7_hitsBy_143 rfl ?_
    refine wp_iv2 dX7_hitsBy_145 VX7_storeVersion lX7_125 (gs_ne (by decide) m51) (rq0 rfl rfl) (Nat.le_of_ble_eq_true rfl) (sa_of (gs_eq (gs_lt m52)) (C_storeVersion (sa_mk (by decide) (gs_ne (by decide) m51) rfl (gs_eq (gs_lt m52))) hR (by omega) (by unfold r32; omega) (hI.n60 (by omega)) (hI.n60 (by omega)) ?_))
    dsimp only [pushR]
    rw [set_same (gs_eq (gs_lt m52))]
    refine wp_istore (L' := [some (vR 51), some (vI d), some (vI a), some (vI t), some (vI n), some (vI i), some (vI k), some (vI (eA a k)), some (vI (svO g (a / 2) k))]) dX7_hitsBy_148 (by decide) rfl ?_
    refine wp_aload_n dX7_hitsBy_150 rfl ?_
    refine wp_iload_n dX7_hitsBy_151 rfl ?_
    refine wp_iload dX7_hitsBy_152 rfl ?_
    refine wp_aload_n dX7_hitsBy_154 rfl ?_
    refine wp_iload dX7_hitsBy_155 rfl ?_
    refine wp_iv1 dX7_hitsBy_157 VX7_valueOf lX7_128 (gs_ne (by decide) m51) (rq0 rfl rfl) (Nat.le_of_ble_eq_true rfl) (sa_of (gs_eq (gs_lt m52)) (C_valueOf (sa_mk (by decide) (gs_ne (by decide) m51) rfl (gs_eq (gs_lt m52))) hv ?_))
    dsimp only [pushR]
    rw [set_same (gs_eq (gs_lt m52))]
    refine wp_iload dX7_hitsBy_160 rfl ?_
    refine wp_iv4 dX7_hitsBy_162 VX7_fills lX7_140 (gs_ne (by decide) m51) (rq0 rfl rfl) (Nat.le_of_ble_eq_true rfl) (sa_of (gs_eq (gs_lt m52)) (C_fills (sa_mk (by decide) (gs_ne (by decide) m51) rfl (gs_eq (gs_lt m52))) hI.bd (by omega) ha hk (by omega) n0 (by omega) ?_))
    dsimp only [pushR]
    rw [List.set_set]
    refine wp_iinc (L' := [some (vR 51), some (vI d), some (vI a), some (vI t), some (vI n), some (vI (i + 1)), some (vI k), some (vI (eA a k)), some (vI (svO g (a / 2) k))]) dX7_hitsBy_165 rfl rfl ?_
    refine wp_goto 30 dX7_hitsBy_168 rfl ?_
    simp only [if_neg (show ¬ g 0 < g (eA a k) by assumption), Int.add_zero] at hQ
    exact hQ _ _
  · refine wp_aload_n dX7_hitsBy_105 rfl ?_
    refine wp_getf dX7_hitsBy_106 fX7_9 (gs_ne (by decide) m51) rfl ?_
    refine wp_iload dX7_hitsBy_109 rfl ?_
    refine wp_iconst dX7_hitsBy_111 ?_
    refine wp_iadd dX7_hitsBy_112 ?_
    refine wp_aload_n dX7_hitsBy_113 rfl ?_
    refine wp_getf dX7_hitsBy_114 fX7_9 (gs_ne (by decide) m51) rfl ?_
    refine wp_iconst dX7_hitsBy_117 ?_
    refine wp_iav (v := g 0) dX7_hitsBy_118 (gs_eq (gs_lt m52)) (by decide) (by omega) rfl ?_
    refine wp_isv dX7_hitsBy_119 (gs_eq (gs_lt m52)) (by decide) (by omega) ?_
    refine wp_aload_n dX7_hitsBy_120 rfl ?_
    refine wp_getf dX7_hitsBy_121 fX7_9 (gs_ne (by decide) (gs_ne (by decide) m51)) rfl ?_
    refine wp_iload dX7_hitsBy_124 rfl ?_
    refine wp_iconst dX7_hitsBy_126 ?_
    refine wp_iadd dX7_hitsBy_127 ?_
    refine wp_dup2 dX7_hitsBy_128 rfl rfl ?_
    refine wp_iav (v := g (eA a k + 5)) dX7_hitsBy_129 (gs_eq (gs_l (gs_lt m52))) (by decide) (by omega) (by rw [ud_ne (by omega)] <;> rfl) ?_
    refine wp_iconst dX7_hitsBy_130 ?_
    refine wp_iadd dX7_hitsBy_131 ?_
    refine wp_isv dX7_hitsBy_132 (gs_eq (gs_l (gs_lt m52))) (by decide) (by omega) ?_
    refine wp_iinc (L' := [some (vR 51), some (vI d), some (vI a), some (vI t), some (vI (n + 1)), some (vI i), some (vI k), some (vI (eA a k)), y8]) dX7_hitsBy_133 rfl rfl ?_
    refine wp_goto 165 dX7_hitsBy_136 rfl ?_
    refine wp_iinc (L' := [some (vR 51), some (vI d), some (vI a), some (vI t), some (vI (n + 1)), some (vI (i + 1)), some (vI k), some (vI (eA a k)), y8]) dX7_hitsBy_165 rfl rfl ?_
    refine wp_goto 30 dX7_hitsBy_168 rfl ?_
    rw [List.set_set, List.set_set]
    simp only [if_pos (show g 0 < g (eA a k) by assumption)] at hQ
    exact hQ _ _
set_option maxHeartbeats 2000000 in
theorem lp_rt {d a t : Int} (m51 : h[51]? = some (oO 7 (mF dn km ln at_ ft ac mn om fw mo un ik))) (m52 : h[52]? = some (oI 1014 g0)) (m67 : h[67]? = some (oL 160 R)) (m68 : h[68]? = some (oI 4 Z)) (hd : 0 ≤ d ∧ d < 4) (ha : 0 ≤ a ∧ a < 6) (hZ : ∀ j, -1 ≤ Z j ∧ Z j ≤ 40) (hr6 : ∀ j, r64 (R j)) : ∀ (m : Nat) (i n : Int) (f g : Int → Int) (B : Int) (y6 y7 y8 : Option AV), i + m = Z d → 0 ≤ i → 0 ≤ n ∧ n ≤ i → HW B f g → 1000 ≤ B → B + 400 * m + 10 ≤ 8000000 → (∀ i' y6 y7 y8, Wp X kX7_hitsBy 171 [some (vR 51), some (vI d), some (vI a), some (vI t), some (vI (trS (fun j => R (40 * d + j)) a m i n g).1), some (vI i'), y6, y7, y8] [] (h.set 52 (oI 1014 (trS (fun j => R (40 * d + j)) a m i n g).2)) b Q) → Wp X kX7_hitsBy 30 [some (vR 51), some (vI d), some (vI a), some (vI t), some (vI n), some (vI i), y6, y7, y8] [] (h.set 52 (oI 1014 g)) b Q := by
  have hRZ : ∀ j, r32 (Z j) := fun j => by have := hZ j; unfold r32; omega
  have zd := hZ d
  intro m
  induction m with
  | zero =>
    intro i n f g B y6 y7 y8 q1 q2 q3 hH hB hBB hQ
    refine wp_iload dX7_hitsBy_30 rfl ?_
    refine wp_aload_n dX7_hitsBy_32 rfl ?_
    refine wp_getf dX7_hitsBy_33 fX7_76 (gs_ne (by decide) m51) rfl ?_
    refine wp_iload_n dX7_hitsBy_36 rfl ?_
    refine wp_iav (v := Z d) dX7_hitsBy_37 (gs_ne (by decide) m68) (by decide) (by omega) rfl ?_
    refine wp_icmp_ge 171 dX7_hitsBy_38 rfl (by first | assumption | exact hRZ _ | (unfold r32; omega)) (by first | assumption | exact hRZ _ | (unfold r32; omega)) (fun c38 => ?_) (fun c38 => ?_)
    · exact hQ _ _ _ _
    · exfalso; omega
  | succ m ih =>
    intro i n f g B y6 y7 y8 q1 q2 q3 hH hB hBB hQ
    have hI := hH.2.1
    have hN1 := HW.now hH
    have hx6 := hr6 (40 * d + i)
    unfold trS at hQ
    refine wp_iload dX7_hitsBy_30 rfl ?_
    refine wp_aload_n dX7_hitsBy_32 rfl ?_
    refine wp_getf dX7_hitsBy_33 fX7_76 (gs_ne (by decide) m51) rfl ?_
    refine wp_iload_n dX7_hitsBy_36 rfl ?_
    refine wp_iav (v := Z d) dX7_hitsBy_37 (gs_ne (by decide) m68) (by decide) (by omega) rfl ?_
    refine wp_icmp_ge 171 dX7_hitsBy_38 rfl (by first | assumption | exact hRZ _ | (unfold r32; omega)) (by first | assumption | exact hRZ _ | (unfold r32; omega)) (fun c38 => ?_) (fun c38 => ?_)
    · (repeat' split at hQ) <;> first | (exfalso; omega) | exact hQ _ _ _ _
    · refine wp_aload_n dX7_hitsBy_41 rfl ?_
      refine wp_getf dX7_hitsBy_42 fX7_73 (gs_ne (by decide) m51) rfl ?_
      refine wp_bipush dX7_hitsBy_45 rfl ?_
      refine wp_iload_n dX7_hitsBy_47 rfl ?_
      refine wp_imul dX7_hitsBy_48 ?_
      refine wp_iload dX7_hitsBy_49 rfl ?_
      refine wp_iadd dX7_hitsBy_51 ?_
      refine wp_lav (v := R (40 * d + i)) dX7_hitsBy_52 (gs_ne (by decide) m67) (by decide) (by omega) rfl ?_
      refine wp_lconst (z := 0) dX7_hitsBy_53 rfl ?_
      refine wp_ldc2 dX7_hitsBy_54 cX7_98 ?_
      refine wp_is3 dX7_hitsBy_57 SX7_in lX7_94 (rq0 rfl rfl) (Nat.le_of_ble_eq_true rfl) (C_in (by first | assumption | exact r64_of (hR _) | (unfold r64 r32 at *; omega)) (by first | assumption | exact r64_of (hR _) | (unfold r64 r32 at *; omega)) (by first | assumption | exact r64_of (hR _) | (unfold r64 r32 at *; omega)) ?_)
      dsimp only [pushR]
      refine wp_beq 171 dX7_hitsBy_60 rfl (fun c60 => ?_) (fun c60 => ?_)
      · (repeat' split at hQ) <;> first | (exfalso; omega) | exact hQ _ _ _ _
      · refine wp_aload_n dX7_hitsBy_63 rfl ?_
        refine wp_getf dX7_hitsBy_64 fX7_73 (gs_ne (by decide) m51) rfl ?_
        refine wp_bipush dX7_hitsBy_67 rfl ?_
        refine wp_iload_n dX7_hitsBy_69 rfl ?_
        refine wp_imul dX7_hitsBy_70 ?_
        refine wp_iload dX7_hitsBy_71 rfl ?_
        refine wp_iadd dX7_hitsBy_73 ?_
        refine wp_lav (v := R (40 * d + i)) dX7_hitsBy_74 (gs_ne (by decide) m67) (by decide) (by omega) rfl ?_
        refine wp_l2i dX7_hitsBy_75 ?_
        refine wp_istore (L' := [some (vR 51), some (vI d), some (vI a), some (vI t), some (vI n), some (vI i), some (vI (R (40 * d + i))), y7, y8]) dX7_hitsBy_76 (by decide) rfl ?_
        refine wp_aload_n dX7_hitsBy_78 rfl ?_
        refine wp_getf dX7_hitsBy_79 fX7_9 (gs_ne (by decide) m51) rfl ?_
        refine wp_iconst dX7_hitsBy_82 ?_
        refine wp_dup2 dX7_hitsBy_83 rfl rfl ?_
        refine wp_iav (v := g 0) dX7_hitsBy_84 (gs_eq (gs_lt m52)) (by decide) (by omega) rfl ?_
        refine wp_iconst dX7_hitsBy_85 ?_
        refine wp_iadd dX7_hitsBy_86 ?_
        refine wp_isv dX7_hitsBy_87 (gs_eq (gs_lt m52)) (by decide) (by omega) ?_
        rw [List.set_set]
        rw [if_pos (by omega), if_pos (by omega)] at hQ
        have hT := HW.tr (t := g 8) hN1 (by omega) ha (show 0 ≤ R (40 * d + i) ∧ R (40 * d + i) < 10 by omega) (by rw [ud_ne (by omega)])
        have w01 := rTry_01 (ud g 0 (g 0 + 1)) a (R (40 * d + i))
        refine hb_step m51 m52 hN1.2.1 (by omega) ha (by omega) (fun y7 y8 => ?_)
        exact ih (i + 1) _ _ _ _ _ _ _ (by omega) (by omega) (by omega) hT.2.1 (by omega) (by omega) hQ
theorem lp_re {d a t n : Int} {y5 y6 y7 y8 : Option AV} (hM : MV h g Kp dn km T ln P PS R Z I ik) (m59 : h[59]? = some (oI 1014 fr)) (hQ : Q (some (vI n)) (h.set 52 (oI 1014 (cpI fr g 0 0 1014)))) : Wp X kX7_hitsBy 171 [some (vR 51), some (vI d), some (vI a), some (vI t), some (vI n), y5, y6, y7, y8] [] h b Q := by
  obtain ⟨⟨at_, ft, ac, mn, om, fw, mo, un, m51⟩, m52, m53, m54, -, m56, m57, -, -, -, -, -, -, -, -, m67, m68, m69, -⟩ := id hM
  refine wp_aload_n dX7_hitsBy_171 rfl ?_
  refine wp_getf dX7_hitsBy_172 fX7_48 m51 rfl ?_
  refine wp_iconst dX7_hitsBy_175 ?_
  refine wp_aload_n dX7_hitsBy_176 rfl ?_
  refine wp_getf dX7_hitsBy_177 fX7_9 m51 rfl ?_
  refine wp_iconst dX7_hitsBy_180 ?_
  refine wp_sipush dX7_hitsBy_181 rfl ?_
  refine wp_copyi dX7_hitsBy_184 aX7_86 m59 m52 (by decide) (by decide) (by omega) (by omega) (by omega) (by omega) (by omega) (Nat.le_of_ble_eq_true rfl) (Nat.le_of_ble_eq_true rfl) ?_
  refine wp_iload dX7_hitsBy_187 rfl ?_
  exact wp_iret dX7_hitsBy_189 rfl hQ
set_option maxHeartbeats 2000000 in
theorem C_hitsBy {d a t : Int} (hM : MV h g Kp dn km T ln P PS R Z I ik) (hd : 0 ≤ d ∧ d < 4) (ha : 0 ≤ a ∧ a < 6) (ht : 0 ≤ t ∧ t < 4) (hZ : ∀ j, -1 ≤ Z j ∧ Z j ≤ 40) (hZd : 0 ≤ Z d) (hr6 : ∀ j, r64 (R j)) (hH : HW B f g) (hz : ZM g) (hB : 1000 ≤ B) (hBB : B + 20000 ≤ 8000000) (hQ : ∀ h', MV h' g Kp dn km T ln P PS R Z I ik → FRm h h' → Q (some (vI (trS (fun j => R (40 * d + j)) a (Z d).toNat 0 0 (ud g 8 t)).1)) h') : Cl X kX7_hitsBy [vR 51, vI d, vI a, vI t] h Q := by
  refine cl_of rfl (Nat.le_of_ble_eq_true rfl) rfl ?_
  obtain ⟨⟨at_, ft, ac, mn, om, fw, mo, un, m51⟩, m52, m53, m54, -, m56, m57, ⟨fr, m59⟩, -, -, -, -, -, -, -, m67, m68, m69, -⟩ := id hM
  have zd := hZ d
  have hH8 : HW B f (ud g 8 t) := by
    have e := sm_pol (v := f 8) (w := t) hH.1 hH.2.1
    rw [ud_id] at e
    exact ⟨e, hH.2.1.wr (by unfold CellM; omega), hH.2.2⟩
  have zg : ZM (trS (fun j => R (40 * d + j)) a (Z d).toNat 0 0 (ud g 8 t)).2 := zm_trS ha _ _ _ _ (zm_ud hz (by omega))
  refine wp_aload_n dX7_hitsBy_0 rfl ?_
  refine wp_getf dX7_hitsBy_1 fX7_9 m51 rfl ?_
  refine wp_iconst dX7_hitsBy_4 ?_
  refine wp_aload_n dX7_hitsBy_5 rfl ?_
  refine wp_getf dX7_hitsBy_6 fX7_48 m51 rfl ?_
  refine wp_iconst dX7_hitsBy_9 ?_
  refine wp_sipush dX7_hitsBy_10 rfl ?_
  refine wp_copyi dX7_hitsBy_13 aX7_86 m52 m59 (by decide) (by decide) (by omega) (by omega) (by omega) (by omega) (by omega) (Nat.le_of_ble_eq_true rfl) (Nat.le_of_ble_eq_true rfl) ?_
  refine wp_aload_n dX7_hitsBy_16 rfl ?_
  refine wp_getf dX7_hitsBy_17 fX7_9 (gs_ne (by decide) m51) rfl ?_
  refine wp_bipush dX7_hitsBy_20 rfl ?_
  refine wp_iload_n dX7_hitsBy_22 rfl ?_
  refine wp_isv dX7_hitsBy_23 (gs_ne (by decide) m52) (by decide) (by omega) ?_
  refine wp_iconst dX7_hitsBy_24 ?_
  refine wp_istore (L' := [some (vR 51), some (vI d), some (vI a), some (vI t), some (vI 0), none, none, none, none]) dX7_hitsBy_25 (by decide) rfl ?_
  refine wp_iconst dX7_hitsBy_27 ?_
  refine wp_istore (L' := [some (vR 51), some (vI d), some (vI a), some (vI t), some (vI 0), some (vI 0), none, none, none]) dX7_hitsBy_28 (by decide) rfl ?_
  have M1 : MV (h.set 59 (oI 1014 (cpI g fr 0 0 1014))) g Kp dn km T ln P PS R Z I ik := MV.s59 hM
  refine lp_rt (gs_ne (by decide) m51) (gs_ne (by decide) m52) (gs_ne (by decide) m67) (gs_ne (by decide) m68) hd ha hZ hr6 (Z d).toNat 0 0 f _ B _ _ _ (by omega) (by omega) (by omega) hH8 hB (by omega) (fun i' y6 y7 y8 => ?_)
  have M2 : MV ((h.set 59 (oI 1014 (cpI g fr 0 0 1014))).set 52 (oI 1014 (trS (fun j => R (40 * d + j)) a (Z d).toNat 0 0 (ud g 8 t)).2)) (trS (fun j => R (40 * d + j)) a (Z d).toNat 0 0 (ud g 8 t)).2 Kp dn km T ln P PS R Z I ik := MV.row M1
  have l59 := gs_ne (i := 52) (j := 59) (c := oI 1014 (trS (fun j => R (40 * d + j)) a (Z d).toNat 0 0 (ud g 8 t)).2) (by decide) (gs_eq (i := 59) (c := oI 1014 (cpI g fr 0 0 1014)) (gs_lt m59))
  refine lp_re M2 l59 ?_
  rw [cp_back hz zg]
  exact hQ _ (MV.row M2) ((FRm.st (by decide)).tr ((FRm.st (by decide)).tr (FRm.st (by decide))))
end KD
