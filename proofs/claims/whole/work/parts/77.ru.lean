/-! the reference: what is told, undone, done again, kept; its state's parts -/
section RU
variable {X : XS} {h h' : AH} {Q : Option AV → AH → Prop} {g Kp : Int → Int} {dn km ln ik : Int} {T P PS R Z I : Int → Int} {B : Int}
theorem MV.ch {g' Kp' I' T' : Int → Int} {dn' km' ln' ik' : Int} (hM : MV h g Kp dn km T ln P PS R Z I ik) {at_ ft ac mn om fw mo un : Int} (e51 : h'[51]? = some (oO 7 (mF dn' km' ln' at_ ft ac mn om fw mo un ik'))) (e52 : h'[52]? = some (oI 1014 g')) (e53 : h'[53]? = some (oI 31434 Kp')) (e54 : h'[54]? = some (oI 160 T')) (e69 : h'[69]? = some (oI 1014 I')) (er : ∀ i, 55 ≤ i → i < 69 → h'[i]? = h[i]?) : MV h' g' Kp' dn' km' T' ln' P PS R Z I' ik' := by
  obtain ⟨q0, q1, q2, q3, ⟨f5, q4⟩, q5, q6, ⟨f7, q7⟩, ⟨f8, q8⟩, ⟨f9, q9⟩, ⟨f10, q10⟩, ⟨f11, q11⟩, ⟨f12, q12⟩, ⟨f13, q13⟩, ⟨f14, q14⟩, q15, q16, q17, ⟨f18, q18, q19⟩⟩ := hM
  exact ⟨⟨_, _, _, _, _, _, _, _, e51⟩, e52, e53, e54, ⟨f5, by rw [er 55 (by decide) (by decide)]; exact q4⟩, by rw [er 56 (by decide) (by decide)]; exact q5, by rw [er 57 (by decide) (by decide)]; exact q6, ⟨f7, by rw [er 59 (by decide) (by decide)]; exact q7⟩, ⟨f8, by rw [er 60 (by decide) (by decide)]; exact q8⟩, ⟨f9, by rw [er 61 (by decide) (by decide)]; exact q9⟩, ⟨f10, by rw [er 62 (by decide) (by decide)]; exact q10⟩, ⟨f11, by rw [er 63 (by decide) (by decide)]; exact q11⟩, ⟨f12, by rw [er 64 (by decide) (by decide)]; exact q12⟩, ⟨f13, by rw [er 65 (by decide) (by decide)]; exact q13⟩, ⟨f14, by rw [er 66 (by decide) (by decide)]; exact q14⟩, by rw [er 67 (by decide) (by decide)]; exact q15, by rw [er 68 (by decide) (by decide)]; exact q16, e69, ⟨f18, by rw [er 58 (by decide) (by decide)]; exact q18, q19⟩⟩
theorem MV.row {g' : Int → Int} (hM : MV h g Kp dn km T ln P PS R Z I ik) : MV (h.set 52 (oI 1014 g')) g' Kp dn km T ln P PS R Z I ik := by
  have hM' := hM
  obtain ⟨⟨a1, a2, a3, a4, a5, a6, a7, a8, q0⟩, q1, q2, q3, -, -, -, -, -, -, -, -, -, -, -, -, -, q17, -⟩ := hM'
  exact MV.ch hM (gs_ne (by decide) q0) (gs_eq (gs_lt q1)) (gs_ne (by decide) q2) (gs_ne (by decide) q3) (gs_ne (by decide) q17) (fun i a b => List.getElem?_set_ne (by omega))
theorem MV.sa (hM : MV h g Kp dn km T ln P PS R Z I ik) : SA 7 51 52 h := by
  obtain ⟨⟨a1, a2, a3, a4, a5, a6, a7, a8, q0⟩, q1, -⟩ := hM
  exact sa_mk (by decide) q0 rfl q1
def ZM (g : Int → Int) : Prop := ∀ j, j < 0 ∨ 1014 ≤ j → g j = 0
theorem zm_ud {j x : Int} (hz : ZM g) (hj : 0 ≤ j ∧ j < 1014) : ZM (ud g j x) := fun k hk => by rw [ud_ne (by omega)]; exact hz k hk
/-- the row that is kept at place j -/
def rK (Kp : Int → Int) (j : Int) : Int → Int := fun i => if 0 ≤ i ∧ i < 1014 then Kp (1014 * j + i) else 0
theorem cp_rK {j : Int} (hz : ZM g) : cpI Kp g (j * 1014) 0 1014 = rK Kp j := by
  funext k
  unfold cpI rK
  split
  · rename_i c
    rw [if_pos (by omega), show j * 1014 + (k - 0) = 1014 * j + k by omega]
  · rename_i c
    rw [if_neg (by omega), hz k (by omega)]
theorem cp_g {o : Int → Int} (hz : ZM g) (ho : ZM o) : cpI g o 0 0 1014 = g := by
  funext k
  unfold cpI
  split
  · rw [show (0 : Int) + (k - 0) = k by omega]
  · rw [hz k (by omega), ho k (by omega)]
theorem rK_told {n : Int} (hz : ZM g) (hn : 0 ≤ n) (j : Int) (hj : 0 ≤ j) : rK (cpI g Kp 0 (n * 1014) 1014) j = if j = n then g else rK Kp j := by
  funext k
  unfold rK
  rcases Decidable.em (0 ≤ k ∧ k < 1014) with c | c
  · rw [if_pos c]
    rcases Decidable.em (j = n) with e | e
    · subst e
      rw [if_pos rfl]
      unfold cpI
      rw [if_pos (by omega), show (0 : Int) + (1014 * j + k - j * 1014) = k by omega]
    · rw [if_neg e, if_pos c]
      unfold cpI
      rw [if_neg (by omega)]
  · rw [if_neg c]
    split
    · rw [hz k (by omega)]
    · exact (if_neg c).symm
theorem rK_shift {j : Int} (hj : 0 ≤ j ∧ j < 30) : rK (cpI Kp Kp 1014 0 30420) j = rK Kp (j + 1) := by
  funext k
  unfold rK
  rcases Decidable.em (0 ≤ k ∧ k < 1014) with c | c
  · rw [if_pos c, if_pos c]
    unfold cpI
    rw [if_pos (by omega), show (1014 : Int) + (1014 * j + k - 0) = 1014 * (j + 1) + k by omega]
  · rw [if_neg c, if_neg c]
theorem rK_z (Kp : Int → Int) (j : Int) : ZM (rK Kp j) := fun k hk => if_neg (by omega)
/-- answers that aren't told -/
def dNo (v : Int) : Prop := v = -1 ∨ v = -2 ∨ v = -3 ∨ v = -5 ∨ v = -11 ∨ v = -13
set_option maxHeartbeats 2000000 in
theorem C_told {v : Int} (hM : MV h g Kp dn km T ln P PS R Z I ik) (rv : r32 v) (hd : 0 ≤ dn ∧ dn ≤ 30) (hQ0 : dNo v → Q (some (vI v)) h)
    (hQ1 : ¬ dNo v → dn ≠ 30 → ∀ h', MV h' g (cpI g Kp 0 ((dn + 1) * 1014) 1014) (dn + 1) (dn + 1) T ln P PS R Z I ik → FRm h h' → Q (some (vI v)) h') (hQ2 : ¬ dNo v → dn = 30 → ∀ h', MV h' g (cpI g (cpI Kp Kp 1014 0 30420) 0 ((dn - 1 + 1) * 1014) 1014) (dn - 1 + 1) (dn - 1 + 1) T ln P PS R Z I ik → FRm h h' → Q (some (vI v)) h') : Cl X kX7_told [vR 51, vI v] h Q := by
  refine cl_of rfl (Nat.le_of_ble_eq_true rfl) rfl ?_
  obtain ⟨⟨at_, ft, ac, mn, om, fw, mo, un, m51⟩, m52, m53, m54, -, -, -, -, -, -, -, -, -, -, -, -, -, m69, -⟩ := id hM
  refine wp_iload_n dX7_told_0 rfl ?_
  refine wp_iconst dX7_told_1 ?_
  refine wp_icmp_eq 35 dX7_told_2 rfl (by first | assumption | exact hR _ | exact bI_r _ | (unfold r32; omega)) ⟨by omega, by omega⟩ (fun c2 => ?_) (fun c2 => ?_)
  · refine wp_iload_n dX7_told_35 rfl ?_
    exact wp_iret dX7_told_36 rfl (hQ0 (by unfold dNo; omega))
  · refine wp_iload_n dX7_told_5 rfl ?_
    refine wp_bipush dX7_told_6 rfl ?_
    refine wp_icmp_eq 35 dX7_told_8 rfl (by first | assumption | exact hR _ | exact bI_r _ | (unfold r32; omega)) ⟨by omega, by omega⟩ (fun c8 => ?_) (fun c8 => ?_)
    · refine wp_iload_n dX7_told_35 rfl ?_
      exact wp_iret dX7_told_36 rfl (hQ0 (by unfold dNo; omega))
    · refine wp_iload_n dX7_told_11 rfl ?_
      refine wp_bipush dX7_told_12 rfl ?_
      refine wp_icmp_eq 35 dX7_told_14 rfl (by first | assumption | exact hR _ | exact bI_r _ | (unfold r32; omega)) ⟨by omega, by omega⟩ (fun c14 => ?_) (fun c14 => ?_)
      · refine wp_iload_n dX7_told_35 rfl ?_
        exact wp_iret dX7_told_36 rfl (hQ0 (by unfold dNo; omega))
      · refine wp_iload_n dX7_told_17 rfl ?_
        refine wp_bipush dX7_told_18 rfl ?_
        refine wp_icmp_eq 35 dX7_told_20 rfl (by first | assumption | exact hR _ | exact bI_r _ | (unfold r32; omega)) ⟨by omega, by omega⟩ (fun c20 => ?_) (fun c20 => ?_)
        · refine wp_iload_n dX7_told_35 rfl ?_
          exact wp_iret dX7_told_36 rfl (hQ0 (by unfold dNo; omega))
        · refine wp_iload_n dX7_told_23 rfl ?_
          refine wp_bipush dX7_told_24 rfl ?_
          refine wp_icmp_eq 35 dX7_told_26 rfl (by first | assumption | exact hR _ | exact bI_r _ | (unfold r32; omega)) ⟨by omega, by omega⟩ (fun c26 => ?_) (fun c26 => ?_)
          · refine wp_iload_n dX7_told_35 rfl ?_
            exact wp_iret dX7_told_36 rfl (hQ0 (by unfold dNo; omega))
          · refine wp_iload_n dX7_told_29 rfl ?_
            refine wp_bipush dX7_told_30 rfl ?_
            refine wp_icmp_ne 37 dX7_told_32 rfl (by first | assumption | exact hR _ | exact bI_r _ | (unfold r32; omega)) ⟨by omega, by omega⟩ (fun c32 => ?_) (fun c32 => ?_)
            · refine wp_aload_n dX7_told_37 rfl ?_
              refine wp_getf dX7_told_38 fX7_148 m51 rfl ?_
              refine wp_bipush dX7_told_41 rfl ?_
              refine wp_icmp_ne 74 dX7_told_43 rfl (by first | assumption | exact hR _ | exact bI_r _ | (unfold r32; omega)) ⟨by omega, by omega⟩ (fun c43 => ?_) (fun c43 => ?_)
              · refine wp_aload_n dX7_told_74 rfl ?_
                refine wp_dup dX7_told_75 rfl ?_
                refine wp_getf dX7_told_76 fX7_148 m51 rfl ?_
                refine wp_iconst dX7_told_79 ?_
                refine wp_iadd dX7_told_80 ?_
                refine wp_putv (fs' := mF (dn + 1) km ln at_ ft ac mn om fw mo un ik) dX7_told_81 (pX7_148 rfl) m51 (Nat.le_of_ble_eq_true rfl) (fitF_int _) rfl ?_
                refine wp_aload_n dX7_told_84 rfl ?_
                refine wp_aload_n dX7_told_85 rfl ?_
                refine wp_getf dX7_told_86 fX7_148 (gs_eq (gs_lt m51)) rfl ?_
                refine wp_putv (fs' := mF (dn + 1) (dn + 1) ln at_ ft ac mn om fw mo un ik) dX7_told_89 (pX7_152 rfl) (gs_eq (gs_lt m51)) (Nat.le_of_ble_eq_true rfl) (fitF_int _) rfl ?_
                refine wp_aload_n dX7_told_92 rfl ?_
                refine wp_getf dX7_told_93 fX7_9 (gs_eq (gs_l (gs_lt m51))) rfl ?_
                refine wp_iconst dX7_told_96 ?_
                refine wp_aload_n dX7_told_97 rfl ?_
                refine wp_getf dX7_told_98 fX7_13 (gs_eq (gs_l (gs_lt m51))) rfl ?_
                refine wp_aload_n dX7_told_101 rfl ?_
                refine wp_getf dX7_told_102 fX7_148 (gs_eq (gs_l (gs_lt m51))) rfl ?_
                refine wp_sipush dX7_told_105 rfl ?_
                refine wp_imul dX7_told_108 ?_
                refine wp_sipush dX7_told_109 rfl ?_
                refine wp_copyi dX7_told_112 aX7_86 (gs_ne (by decide) (gs_ne (by decide) m52)) (gs_ne (by decide) (gs_ne (by decide) m53)) (by decide) (by decide) (by omega) (by omega) (by omega) (by omega) (by omega) (Nat.le_of_ble_eq_true rfl) (Nat.le_of_ble_eq_true rfl) ?_
                refine wp_iload_n dX7_told_115 rfl ?_
                exact wp_iret dX7_told_116 rfl (hQ1 (by unfold dNo; omega) c43 _ (MV.ch hM (gs_ne (by decide) (gs_eq (gs_l (gs_lt m51)))) (gs_ne (by decide) (gs_ne (by decide) (gs_ne (by decide) m52))) (gs_eq (gs_l (gs_l (gs_lt m53)))) (gs_ne (by decide) (gs_ne (by decide) (gs_ne (by decide) m54))) (gs_ne (by decide) (gs_ne (by decide) (gs_ne (by decide) m69))) (fun i a b => by rw [List.getElem?_set_ne (by omega), List.getElem?_set_ne (by omega), List.getElem?_set_ne (by omega)])) ⟨by simp only [List.length_set], fun i hi => by rw [List.getElem?_set_ne (by omega), List.getElem?_set_ne (by omega), List.getElem?_set_ne (by omega)]⟩)
              · refine wp_aload_n dX7_told_46 rfl ?_
                refine wp_getf dX7_told_47 fX7_13 m51 rfl ?_
                refine wp_sipush dX7_told_50 rfl ?_
                refine wp_aload_n dX7_told_53 rfl ?_
                refine wp_getf dX7_told_54 fX7_13 m51 rfl ?_
                refine wp_iconst dX7_told_57 ?_
                refine wp_sipush dX7_told_58 rfl ?_
                refine wp_copyi dX7_told_61 aX7_86 m53 m53 (by decide) (by decide) (by omega) (by omega) (by omega) (by omega) (by omega) (Nat.le_of_ble_eq_true rfl) (Nat.le_of_ble_eq_true rfl) ?_
                refine wp_aload_n dX7_told_64 rfl ?_
                refine wp_dup dX7_told_65 rfl ?_
                refine wp_getf dX7_told_66 fX7_148 (gs_ne (by decide) m51) rfl ?_
                refine wp_iconst dX7_told_69 ?_
                refine wp_isub dX7_told_70 ?_
                refine wp_putv (fs' := mF (dn - 1) km ln at_ ft ac mn om fw mo un ik) dX7_told_71 (pX7_148 rfl) (gs_ne (by decide) m51) (Nat.le_of_ble_eq_true rfl) (fitF_int _) rfl ?_
                refine wp_aload_n dX7_told_74 rfl ?_
                refine wp_dup dX7_told_75 rfl ?_
                refine wp_getf dX7_told_76 fX7_148 (gs_eq (gs_l (gs_lt m51))) rfl ?_
                refine wp_iconst dX7_told_79 ?_
                refine wp_iadd dX7_told_80 ?_
                refine wp_putv (fs' := mF (dn - 1 + 1) km ln at_ ft ac mn om fw mo un ik) dX7_told_81 (pX7_148 rfl) (gs_eq (gs_l (gs_lt m51))) (Nat.le_of_ble_eq_true rfl) (fitF_int _) rfl ?_
                refine wp_aload_n dX7_told_84 rfl ?_
                refine wp_aload_n dX7_told_85 rfl ?_
                refine wp_getf dX7_told_86 fX7_148 (gs_eq (gs_l (gs_l (gs_lt m51)))) rfl ?_
                refine wp_putv (fs' := mF (dn - 1 + 1) (dn - 1 + 1) ln at_ ft ac mn om fw mo un ik) dX7_told_89 (pX7_152 rfl) (gs_eq (gs_l (gs_l (gs_lt m51)))) (Nat.le_of_ble_eq_true rfl) (fitF_int _) rfl ?_
                refine wp_aload_n dX7_told_92 rfl ?_
                refine wp_getf dX7_told_93 fX7_9 (gs_eq (gs_l (gs_l (gs_l (gs_lt m51))))) rfl ?_
                refine wp_iconst dX7_told_96 ?_
                refine wp_aload_n dX7_told_97 rfl ?_
                refine wp_getf dX7_told_98 fX7_13 (gs_eq (gs_l (gs_l (gs_l (gs_lt m51))))) rfl ?_
                refine wp_aload_n dX7_told_101 rfl ?_
                refine wp_getf dX7_told_102 fX7_148 (gs_eq (gs_l (gs_l (gs_l (gs_lt m51))))) rfl ?_
                refine wp_sipush dX7_told_105 rfl ?_
                refine wp_imul dX7_told_108 ?_
                refine wp_sipush dX7_told_109 rfl ?_
                refine wp_copyi dX7_told_112 aX7_86 (gs_ne (by decide) (gs_ne (by decide) (gs_ne (by decide) (gs_ne (by decide) m52)))) (gs_ne (by decide) (gs_ne (by decide) (gs_ne (by decide) (gs_eq (gs_lt m53))))) (by decide) (by decide) (by omega) (by omega) (by omega) (by omega) (by omega) (Nat.le_of_ble_eq_true rfl) (Nat.le_of_ble_eq_true rfl) ?_
                refine wp_iload_n dX7_told_115 rfl ?_
                exact wp_iret dX7_told_116 rfl (hQ2 (by unfold dNo; omega) c43 _ (MV.ch hM (gs_ne (by decide) (gs_eq (gs_l (gs_l (gs_l (gs_lt m51)))))) (gs_ne (by decide) (gs_ne (by decide) (gs_ne (by decide) (gs_ne (by decide) (gs_ne (by decide) m52))))) (gs_eq (gs_l (gs_l (gs_l (gs_l (gs_lt m53)))))) (gs_ne (by decide) (gs_ne (by decide) (gs_ne (by decide) (gs_ne (by decide) (gs_ne (by decide) m54))))) (gs_ne (by decide) (gs_ne (by decide) (gs_ne (by decide) (gs_ne (by decide) (gs_ne (by decide) m69))))) (fun i a b => by rw [List.getElem?_set_ne (by omega), List.getElem?_set_ne (by omega), List.getElem?_set_ne (by omega), List.getElem?_set_ne (by omega), List.getElem?_set_ne (by omega)])) ⟨by simp only [List.length_set], fun i hi => by rw [List.getElem?_set_ne (by omega), List.getElem?_set_ne (by omega), List.getElem?_set_ne (by omega), List.getElem?_set_ne (by omega), List.getElem?_set_ne (by omega)]⟩)
            · refine wp_iload_n dX7_told_35 rfl ?_
              exact wp_iret dX7_told_36 rfl (hQ0 (by unfold dNo; omega))
set_option maxHeartbeats 2000000 in
theorem C_rundo (hM : MV h g Kp dn km T ln P PS R Z I ik) (hd : 0 ≤ dn ∧ dn ≤ 30) (hQ0 : dn = 0 → Q (some (vI (-5))) h) (hQ1 : dn ≠ 0 → ∀ h', MV h' (cpI Kp g ((dn - 1) * 1014) 0 1014) Kp (dn - 1) km T ln P PS R Z I ik → FRm h h' → Q (some (vI (dn - 1))) h') : Cl X kX7_undo [vR 51] h Q := by
  refine cl_of rfl (Nat.le_of_ble_eq_true rfl) rfl ?_
  obtain ⟨⟨at_, ft, ac, mn, om, fw, mo, un, m51⟩, m52, m53, m54, -, -, -, -, -, -, -, -, -, -, -, -, -, m69, -⟩ := id hM
  refine wp_aload_n dX7_undo_0 rfl ?_
  refine wp_getf dX7_undo_1 fX7_148 m51 rfl ?_
  refine wp_if_ne 10 dX7_undo_4 rfl (by first | assumption | exact hR _ | exact bI_r _ | (unfold r32; omega)) (fun c4 => ?_) (fun c4 => ?_)
  · refine wp_aload_n dX7_undo_10 rfl ?_
    refine wp_dup dX7_undo_11 rfl ?_
    refine wp_getf dX7_undo_12 fX7_148 m51 rfl ?_
    refine wp_iconst dX7_undo_15 ?_
    refine wp_isub dX7_undo_16 ?_
    refine wp_putv (fs' := mF (dn - 1) km ln at_ ft ac mn om fw mo un ik) dX7_undo_17 (pX7_148 rfl) m51 (Nat.le_of_ble_eq_true rfl) (fitF_int _) rfl ?_
    refine wp_aload_n dX7_undo_20 rfl ?_
    refine wp_getf dX7_undo_21 fX7_13 (gs_eq (gs_lt m51)) rfl ?_
    refine wp_aload_n dX7_undo_24 rfl ?_
    refine wp_getf dX7_undo_25 fX7_148 (gs_eq (gs_lt m51)) rfl ?_
    refine wp_sipush dX7_undo_28 rfl ?_
    refine wp_imul dX7_undo_31 ?_
    refine wp_aload_n dX7_undo_32 rfl ?_
    refine wp_getf dX7_undo_33 fX7_9 (gs_eq (gs_lt m51)) rfl ?_
    refine wp_iconst dX7_undo_36 ?_
    refine wp_sipush dX7_undo_37 rfl ?_
    refine wp_copyi dX7_undo_40 aX7_86 (gs_ne (by decide) m53) (gs_ne (by decide) m52) (by decide) (by decide) (by omega) (by omega) (by omega) (by omega) (by omega) (Nat.le_of_ble_eq_true rfl) (Nat.le_of_ble_eq_true rfl) ?_
    refine wp_aload_n dX7_undo_43 rfl ?_
    refine wp_getf dX7_undo_44 fX7_148 (gs_ne (by decide) (gs_eq (gs_lt m51))) rfl ?_
    exact wp_iret dX7_undo_47 rfl (hQ1 c4 _ (MV.ch hM (gs_ne (by decide) (gs_eq (gs_lt m51))) (gs_eq (gs_l (gs_lt m52))) (gs_ne (by decide) (gs_ne (by decide) m53)) (gs_ne (by decide) (gs_ne (by decide) m54)) (gs_ne (by decide) (gs_ne (by decide) m69)) (fun i a b => by rw [List.getElem?_set_ne (by omega), List.getElem?_set_ne (by omega)])) ⟨by simp only [List.length_set], fun i hi => by rw [List.getElem?_set_ne (by omega), List.getElem?_set_ne (by omega)]⟩)
  · refine wp_bipush dX7_undo_7 rfl ?_
    exact wp_iret dX7_undo_9 rfl (hQ0 c4)
set_option maxHeartbeats 2000000 in
theorem C_rredo (hM : MV h g Kp dn km T ln P PS R Z I ik) (hd : 0 ≤ dn ∧ dn ≤ km ∧ km ≤ 30) (hQ0 : dn = km → Q (some (vI (-5))) h) (hQ1 : dn ≠ km → ∀ h', MV h' (cpI Kp g ((dn + 1) * 1014) 0 1014) Kp (dn + 1) km T ln P PS R Z I ik → FRm h h' → Q (some (vI (km - (dn + 1)))) h') : Cl X kX7_redo [vR 51] h Q := by
  refine cl_of rfl (Nat.le_of_ble_eq_true rfl) rfl ?_
  obtain ⟨⟨at_, ft, ac, mn, om, fw, mo, un, m51⟩, m52, m53, m54, -, -, -, -, -, -, -, -, -, -, -, -, -, m69, -⟩ := id hM
  refine wp_aload_n dX7_redo_0 rfl ?_
  refine wp_getf dX7_redo_1 fX7_148 m51 rfl ?_
  refine wp_aload_n dX7_redo_4 rfl ?_
  refine wp_getf dX7_redo_5 fX7_152 m51 rfl ?_
  refine wp_icmp_ne 14 dX7_redo_8 rfl (by first | assumption | exact hR _ | exact bI_r _ | (unfold r32; omega)) (by first | assumption | exact hR _ | exact bI_r _ | (unfold r32; omega)) (fun c8 => ?_) (fun c8 => ?_)
  · refine wp_aload_n dX7_redo_14 rfl ?_
    refine wp_dup dX7_redo_15 rfl ?_
    refine wp_getf dX7_redo_16 fX7_148 m51 rfl ?_
    refine wp_iconst dX7_redo_19 ?_
    refine wp_iadd dX7_redo_20 ?_
    refine wp_putv (fs' := mF (dn + 1) km ln at_ ft ac mn om fw mo un ik) dX7_redo_21 (pX7_148 rfl) m51 (Nat.le_of_ble_eq_true rfl) (fitF_int _) rfl ?_
    refine wp_aload_n dX7_redo_24 rfl ?_
    refine wp_getf dX7_redo_25 fX7_13 (gs_eq (gs_lt m51)) rfl ?_
    refine wp_aload_n dX7_redo_28 rfl ?_
    refine wp_getf dX7_redo_29 fX7_148 (gs_eq (gs_lt m51)) rfl ?_
    refine wp_sipush dX7_redo_32 rfl ?_
    refine wp_imul dX7_redo_35 ?_
    refine wp_aload_n dX7_redo_36 rfl ?_
    refine wp_getf dX7_redo_37 fX7_9 (gs_eq (gs_lt m51)) rfl ?_
    refine wp_iconst dX7_redo_40 ?_
    refine wp_sipush dX7_redo_41 rfl ?_
    refine wp_copyi dX7_redo_44 aX7_86 (gs_ne (by decide) m53) (gs_ne (by decide) m52) (by decide) (by decide) (by omega) (by omega) (by omega) (by omega) (by omega) (Nat.le_of_ble_eq_true rfl) (Nat.le_of_ble_eq_true rfl) ?_
    refine wp_aload_n dX7_redo_47 rfl ?_
    refine wp_getf dX7_redo_48 fX7_152 (gs_ne (by decide) (gs_eq (gs_lt m51))) rfl ?_
    refine wp_aload_n dX7_redo_51 rfl ?_
    refine wp_getf dX7_redo_52 fX7_148 (gs_ne (by decide) (gs_eq (gs_lt m51))) rfl ?_
    refine wp_isub dX7_redo_55 ?_
    exact wp_iret dX7_redo_56 rfl (hQ1 c8 _ (MV.ch hM (gs_ne (by decide) (gs_eq (gs_lt m51))) (gs_eq (gs_l (gs_lt m52))) (gs_ne (by decide) (gs_ne (by decide) m53)) (gs_ne (by decide) (gs_ne (by decide) m54)) (gs_ne (by decide) (gs_ne (by decide) m69)) (fun i a b => by rw [List.getElem?_set_ne (by omega), List.getElem?_set_ne (by omega)])) ⟨by simp only [List.length_set], fun i hi => by rw [List.getElem?_set_ne (by omega), List.getElem?_set_ne (by omega)]⟩)
  · refine wp_bipush dX7_redo_11 rfl ?_
    exact wp_iret dX7_redo_13 rfl (hQ0 c8)
set_option maxHeartbeats 2000000 in
theorem C_rimage (hM : MV h g Kp dn km T ln P PS R Z I ik) (hQ1 : ∀ h', MV h' g Kp dn km T ln P PS R Z (cpI g I 0 0 1014) 1 → FRm h h' → Q (some (vI (g 0))) h') : Cl X kX7_image [vR 51] h Q := by
  refine cl_of rfl (Nat.le_of_ble_eq_true rfl) rfl ?_
  obtain ⟨⟨at_, ft, ac, mn, om, fw, mo, un, m51⟩, m52, m53, m54, -, -, -, -, -, -, -, -, -, -, -, -, -, m69, -⟩ := id hM
  refine wp_aload_n dX7_image_0 rfl ?_
  refine wp_getf dX7_image_1 fX7_9 m51 rfl ?_
  refine wp_iconst dX7_image_4 ?_
  refine wp_aload_n dX7_image_5 rfl ?_
  refine wp_getf dX7_image_6 fX7_79 m51 rfl ?_
  refine wp_iconst dX7_image_9 ?_
  refine wp_sipush dX7_image_10 rfl ?_
  refine wp_copyi dX7_image_13 aX7_86 m52 m69 (by decide) (by decide) (by omega) (by omega) (by omega) (by omega) (by omega) (Nat.le_of_ble_eq_true rfl) (Nat.le_of_ble_eq_true rfl) ?_
  refine wp_aload_n dX7_image_16 rfl ?_
  refine wp_iconst dX7_image_17 ?_
  refine wp_putv (fs' := mF dn km ln at_ ft ac mn om fw mo un 1) dX7_image_18 (pX7_348 rfl) (gs_ne (by decide) m51) (Nat.le_of_ble_eq_true rfl) (fitF_bool (Or.inr rfl)) rfl ?_
  refine wp_aload_n dX7_image_21 rfl ?_
  refine wp_getf dX7_image_22 fX7_9 (gs_eq (gs_l (gs_lt m51))) rfl ?_
  refine wp_iconst dX7_image_25 ?_
  refine wp_iav (v := g 0) dX7_image_26 (gs_ne (by decide) (gs_ne (by decide) m52)) (by decide) (by omega) rfl ?_
  exact wp_iret dX7_image_27 rfl (hQ1 _ (MV.ch hM (gs_eq (gs_l (gs_lt m51))) (gs_ne (by decide) (gs_ne (by decide) m52)) (gs_ne (by decide) (gs_ne (by decide) m53)) (gs_ne (by decide) (gs_ne (by decide) m54)) (gs_ne (by decide) (gs_eq (gs_lt m69))) (fun i a b => by rw [List.getElem?_set_ne (by omega), List.getElem?_set_ne (by omega)])) ⟨by simp only [List.length_set], fun i hi => by rw [List.getElem?_set_ne (by omega), List.getElem?_set_ne (by omega)]⟩)
set_option maxHeartbeats 2000000 in
theorem C_rback (hM : MV h g Kp dn km T ln P PS R Z I ik) (hi : ik = 0 ∨ ik = 1) (hQ0 : ik = 0 → Q (some (vI (-5))) h) (hQ1 : ik ≠ 0 → ∀ h', MV h' (cpI I g 0 0 1014) (cpI I Kp 0 0 1014) 0 0 T ln P PS R Z I ik → FRm h h' → Q (some (vI (cpI I g 0 0 1014 0))) h') : Cl X kX7_back [vR 51] h Q := by
  refine cl_of rfl (Nat.le_of_ble_eq_true rfl) rfl ?_
  obtain ⟨⟨at_, ft, ac, mn, om, fw, mo, un, m51⟩, m52, m53, m54, -, -, -, -, -, -, -, -, -, -, -, -, -, m69, -⟩ := id hM
  refine wp_aload_n dX7_back_0 rfl ?_
  refine wp_getf dX7_back_1 fX7_348 m51 rfl ?_
  refine wp_if_ne 10 dX7_back_4 rfl (by first | assumption | exact hR _ | exact bI_r _ | (unfold r32; omega)) (fun c4 => ?_) (fun c4 => ?_)
  · refine wp_aload_n dX7_back_10 rfl ?_
    refine wp_getf dX7_back_11 fX7_79 m51 rfl ?_
    refine wp_iconst dX7_back_14 ?_
    refine wp_aload_n dX7_back_15 rfl ?_
    refine wp_getf dX7_back_16 fX7_9 m51 rfl ?_
    refine wp_iconst dX7_back_19 ?_
    refine wp_sipush dX7_back_20 rfl ?_
    refine wp_copyi dX7_back_23 aX7_86 m69 m52 (by decide) (by decide) (by omega) (by omega) (by omega) (by omega) (by omega) (Nat.le_of_ble_eq_true rfl) (Nat.le_of_ble_eq_true rfl) ?_
    refine wp_aload_n dX7_back_26 rfl ?_
    refine wp_getf dX7_back_27 fX7_79 (gs_ne (by decide) m51) rfl ?_
    refine wp_iconst dX7_back_30 ?_
    refine wp_aload_n dX7_back_31 rfl ?_
    refine wp_getf dX7_back_32 fX7_13 (gs_ne (by decide) m51) rfl ?_
    refine wp_iconst dX7_back_35 ?_
    refine wp_sipush dX7_back_36 rfl ?_
    refine wp_copyi dX7_back_39 aX7_86 (gs_ne (by decide) m69) (gs_ne (by decide) m53) (by decide) (by decide) (by omega) (by omega) (by omega) (by omega) (by omega) (Nat.le_of_ble_eq_true rfl) (Nat.le_of_ble_eq_true rfl) ?_
    refine wp_aload_n dX7_back_42 rfl ?_
    refine wp_iconst dX7_back_43 ?_
    refine wp_putv (fs' := mF 0 km ln at_ ft ac mn om fw mo un ik) dX7_back_44 (pX7_148 rfl) (gs_ne (by decide) (gs_ne (by decide) m51)) (Nat.le_of_ble_eq_true rfl) (fitF_int _) rfl ?_
    refine wp_aload_n dX7_back_47 rfl ?_
    refine wp_iconst dX7_back_48 ?_
    refine wp_putv (fs' := mF 0 0 ln at_ ft ac mn om fw mo un ik) dX7_back_49 (pX7_152 rfl) (gs_eq (gs_l (gs_l (gs_lt m51)))) (Nat.le_of_ble_eq_true rfl) (fitF_int _) rfl ?_
    refine wp_aload_n dX7_back_52 rfl ?_
    refine wp_getf dX7_back_53 fX7_9 (gs_eq (gs_l (gs_l (gs_l (gs_lt m51))))) rfl ?_
    refine wp_iconst dX7_back_56 ?_
    refine wp_iav (v := (cpI I g 0 0 1014) 0) dX7_back_57 (gs_ne (by decide) (gs_ne (by decide) (gs_ne (by decide) (gs_eq (gs_lt m52))))) (by decide) (by omega) rfl ?_
    exact wp_iret dX7_back_58 rfl (hQ1 c4 _ (MV.ch hM (gs_eq (gs_l (gs_l (gs_l (gs_lt m51))))) (gs_ne (by decide) (gs_ne (by decide) (gs_ne (by decide) (gs_eq (gs_lt m52))))) (gs_ne (by decide) (gs_ne (by decide) (gs_eq (gs_l (gs_lt m53))))) (gs_ne (by decide) (gs_ne (by decide) (gs_ne (by decide) (gs_ne (by decide) m54)))) (gs_ne (by decide) (gs_ne (by decide) (gs_ne (by decide) (gs_ne (by decide) m69)))) (fun i a b => by rw [List.getElem?_set_ne (by omega), List.getElem?_set_ne (by omega), List.getElem?_set_ne (by omega), List.getElem?_set_ne (by omega)])) ⟨by simp only [List.length_set], fun i hi => by rw [List.getElem?_set_ne (by omega), List.getElem?_set_ne (by omega), List.getElem?_set_ne (by omega), List.getElem?_set_ne (by omega)]⟩)
  · refine wp_bipush dX7_back_7 rfl ?_
    exact wp_iret dX7_back_9 rfl (hQ0 c4)
end RU
