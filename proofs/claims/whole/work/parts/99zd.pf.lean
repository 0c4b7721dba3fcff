/-! an act of a plan, both faces -/
def cAct (f : Int → Int) (c k a s : Int) : Int → Int := if k = 0 then (wGet f c a).2 else if k = 1 then (wLook f c).2 else if k = 2 then (wFill f c).2 else if k = 3 then (wWrite f c a s).2 else if k = 4 then (wApply f a).2 else if k = 5 then ud f 0 (f 0 + a) else if k = 6 then wTurn f a 1 else wTurn f a 0
def rAct (g : Int → Int) (c k a s : Int) : Int → Int := if k = 0 then (spGet g c a).2 else if k = 1 then (spLook g c).2 else if k = 2 then (spFill g c).2 else if k = 3 then (spWrite g c a s).2 else if k = 4 then (spApply g a).2 else if k = 5 then ud g 0 (g 0 + a) else if k = 6 then spCold g a 1 else spCold g a 0
section PF_
variable {X : XS} {h : AH} {Q : Option AV → AH → Prop} {f g tf g0 K Fs S P : Int → Int} {B n c i d dn km ln at_ ft ac mn om fw mo un ik : Int} {pp : Nat} {b : Nat × Nat}
theorem act_cong {k a s a' s' : Int} (h1 : k ≠ 1 → k ≠ 2 → a = a') (h2 : k = 3 → s = s') : rAct g c k a s = rAct g c k a' s' := by
  unfold rAct
  rcases Decidable.em (k = 1 ∨ k = 2) with q | q
  · rcases q with q | q
    · subst q; rfl
    · subst q; rfl
  · rw [h1 (by omega) (by omega)]
    rcases Decidable.em (k = 3) with e | e
    · rw [h2 e]
    · simp only [if_neg e]
theorem AK.act {k a s : Int} (h : AK B f g) (hB : 1000 ≤ B ∧ B ≤ 8000000) (hc : 0 ≤ c ∧ c < 6) (hw : WFA k a s) : AK (B + 1000) (cAct f c k a s) (rAct g c k a s) := by
  unfold WFA at hw
  unfold cAct rAct
  (repeat' split)
  · exact (h.get hB hc (by omega)).2.1
  · exact (h.look hB hc).2
  · exact (h.fill hB hc).2
  · have q := A_write (c := c) (k := a) (v := s) h hB
    unfold cWrite rWrite at q
    rw [if_pos hc, if_pos (show 0 ≤ c ∧ c ≤ 5 by omega), if_pos (show 0 ≤ a ∧ a < 10 by omega), if_pos (show 0 ≤ a ∧ a ≤ 9 by omega), if_pos (show 0 ≤ s ∧ s < 1000 by omega), if_pos (show 0 ≤ s ∧ s ≤ 999 by omega)] at q
    exact q.2.1
  · have q := A_apply (r := a) h hB
    unfold cApply rApply at q
    rw [if_pos (show 0 ≤ a ∧ a < 3 by omega), if_pos (show 0 ≤ a ∧ a ≤ 2 by omega)] at q
    exact q.2.1
  · have q := A_tick (n := a) h hB
    unfold cTick rTick at q
    rw [if_neg (show ¬ a < 1 by omega), if_pos (show a ≤ 50 by omega), if_pos (show 1 ≤ a ∧ a ≤ 50 by omega)] at q
    exact q.2.1
  · have q := A_cold (a := a) (v := 1) h hB
    unfold cCold rCold at q
    rw [if_pos (show 0 ≤ a ∧ a < 6 by omega), if_pos (show 0 ≤ a ∧ a ≤ 5 by omega), if_pos (show (0 : Int) ≤ 1 ∧ (1 : Int) < 2 by omega), if_pos (show (0 : Int) ≤ 1 ∧ (1 : Int) ≤ 1 by omega)] at q
    exact q.2.1
  · have q := A_cold (a := a) (v := 0) h hB
    unfold cCold rCold at q
    rw [if_pos (show 0 ≤ a ∧ a < 6 by omega), if_pos (show 0 ≤ a ∧ a ≤ 5 by omega), if_pos (show (0 : Int) ≤ 0 ∧ (0 : Int) < 2 by omega), if_pos (show (0 : Int) ≤ 0 ∧ (0 : Int) ≤ 1 by omega)] at q
    exact q.2.1
set_option maxHeartbeats 2000000 in
theorem C_perform (hp : h[pp]? = some (oO 2 [vR (pp + 1), vR (pp + 2), vR (pp + 3), vI n])) (hK : h[pp + 1]? = some (oI 5 K)) (hF : h[pp + 2]? = some (oI 5 Fs)) (hS : h[pp + 3]? = some (oI 5 S)) (h3 : h[3]? = some (oO 5 [vR 4])) (h4 : h[4]? = some (oI 1060 tf)) (hpp : 5 ≤ pp) (hi : 0 ≤ i ∧ i < n ∧ n ≤ 5) (hc : 0 ≤ c ∧ c < 6) (hw : WFA (K i) (Fs i) (S i)) (hA : AK B f g) (hB : 1000 ≤ B ∧ B ≤ 8000000) (hQ : Q none (h.set 4 (oI 1060 (cAct f c (K i) (Fs i) (S i))))) : Cl X kX2_perform [vR pp, vI i, vI c, vR 3] (h.set 4 (oI 1060 f)) Q := by
  refine cl_of rfl (Nat.le_of_ble_eq_true rfl) rfl ?_
  have hiw := hA.iw hB.1
  have hset := hA.2.1.set
  have ht5 : f 5 ≤ 100 := by have := hA.1.1.T 2 (by omega); have e : f 5 = g 5 := this; omega
  have ht7 : f 7 ≤ 100 := by have := hA.1.1.T 4 (by omega); have e : f 7 = g 7 := this; omega
  unfold WFA at hw
  refine wp_iload_n dX2_perform_0 rfl ?_
  refine wp_if_lt 12 dX2_perform_1 rfl (by first | assumption | (unfold r32; omega)) (fun c1 => ?_) (fun c1 => ?_)
  · exact wp_ret dX2_perform_12 rfl (by unfold cAct at hQ; (repeat' split at hQ) <;> first | (exfalso; omega) | exact hQ)
  · refine wp_iload_n dX2_perform_4 rfl ?_
    refine wp_aload_n dX2_perform_5 rfl ?_
    refine wp_getf dX2_perform_6 fX2_21 (gs_ne (by omega) hp) rfl ?_
    refine wp_icmp_lt 13 dX2_perform_9 rfl (by first | assumption | (unfold r32; omega)) (by first | assumption | (unfold r32; omega)) (fun c9 => ?_) (fun c9 => ?_)
    · refine wp_aload_n dX2_perform_13 rfl ?_
      refine wp_getf dX2_perform_14 fX2_9 (gs_ne (by omega) hp) rfl ?_
      refine wp_iload_n dX2_perform_17 rfl ?_
      refine wp_iav (v := K i) dX2_perform_18 (gs_ne (by omega) hK) (by decide) (by omega) rfl ?_
      rcases Decidable.em (K i = 0) with e19_0 | e19_0
      · refine wp_tableIn (off := 41) 60 dX2_perform_19 (by first | assumption | (unfold r32; omega)) (by omega) (by omega) (by rw [e19_0]; rfl) rfl ?_
        refine wp_aload_n dX2_perform_60 rfl ?_
        refine wp_iload_n dX2_perform_61 rfl ?_
        refine wp_aload_n dX2_perform_62 rfl ?_
        refine wp_getf dX2_perform_63 fX2_15 (gs_ne (by omega) hp) rfl ?_
        refine wp_iload_n dX2_perform_66 rfl ?_
        refine wp_iav (v := Fs i) dX2_perform_67 (gs_ne (by omega) hF) (by decide) (by omega) rfl ?_
        refine wp_iv2 dX2_perform_68 VX5_obtain lX2_25 (gs_ne (by decide) h3) (rq0 rfl rfl) (Nat.le_of_ble_eq_true rfl) (sa_of (gs_eq (gs_lt h4)) (C_wobtain (sa_mk (by decide) (gs_ne (by decide) h3) rfl (gs_eq (gs_lt h4))) hiw.1 (by omega) hc (by omega) ?_))
        dsimp only [pushR]
        rw [List.set_set]
        refine wp_pop dX2_perform_71 rfl ?_
        refine wp_goto 169 dX2_perform_72 rfl ?_
        exact wp_ret dX2_perform_169 rfl (by unfold cAct at hQ; (repeat' split at hQ) <;> first | (exfalso; omega) | exact hQ)
      rcases Decidable.em (K i = 1) with e19_1 | e19_1
      · refine wp_tableIn (off := 56) 75 dX2_perform_19 (by first | assumption | (unfold r32; omega)) (by omega) (by omega) (by rw [e19_1]; rfl) rfl ?_
        refine wp_aload_n dX2_perform_75 rfl ?_
        refine wp_iload_n dX2_perform_76 rfl ?_
        refine wp_iv1 dX2_perform_77 VX5_lookUp lX2_31 (gs_ne (by decide) h3) (rq0 rfl rfl) (Nat.le_of_ble_eq_true rfl) (sa_of (gs_eq (gs_lt h4)) (C_wlookUp (sa_mk (by decide) (gs_ne (by decide) h3) rfl (gs_eq (gs_lt h4))) hiw.1 (by omega) hc ?_))
        dsimp only [pushR]
        rw [List.set_set]
        refine wp_pop dX2_perform_80 rfl ?_
        refine wp_goto 169 dX2_perform_81 rfl ?_
        exact wp_ret dX2_perform_169 rfl (by unfold cAct at hQ; (repeat' split at hQ) <;> first | (exfalso; omega) | exact hQ)
      rcases Decidable.em (K i = 2) with e19_2 | e19_2
      · refine wp_tableIn (off := 65) 84 dX2_perform_19 (by first | assumption | (unfold r32; omega)) (by omega) (by omega) (by rw [e19_2]; rfl) rfl ?_
        refine wp_aload_n dX2_perform_84 rfl ?_
        refine wp_iload_n dX2_perform_85 rfl ?_
        refine wp_iv1 dX2_perform_86 VX5_bringIn lX2_35 (gs_ne (by decide) h3) (rq0 rfl rfl) (Nat.le_of_ble_eq_true rfl) (sa_of (gs_eq (gs_lt h4)) (C_wbringIn (sa_mk (by decide) (gs_ne (by decide) h3) rfl (gs_eq (gs_lt h4))) hiw.1 (by omega) hc hiw.2 ?_))
        dsimp only [pushR]
        rw [List.set_set]
        refine wp_pop dX2_perform_89 rfl ?_
        refine wp_goto 169 dX2_perform_90 rfl ?_
        exact wp_ret dX2_perform_169 rfl (by unfold cAct at hQ; (repeat' split at hQ) <;> first | (exfalso; omega) | exact hQ)
      rcases Decidable.em (K i = 3) with e19_3 | e19_3
      · refine wp_tableIn (off := 74) 93 dX2_perform_19 (by first | assumption | (unfold r32; omega)) (by omega) (by omega) (by rw [e19_3]; rfl) rfl ?_
        refine wp_aload_n dX2_perform_93 rfl ?_
        refine wp_iload_n dX2_perform_94 rfl ?_
        refine wp_aload_n dX2_perform_95 rfl ?_
        refine wp_getf dX2_perform_96 fX2_15 (gs_ne (by omega) hp) rfl ?_
        refine wp_iload_n dX2_perform_99 rfl ?_
        refine wp_iav (v := Fs i) dX2_perform_100 (gs_ne (by omega) hF) (by decide) (by omega) rfl ?_
        refine wp_aload_n dX2_perform_101 rfl ?_
        refine wp_getf dX2_perform_102 fX2_18 (gs_ne (by omega) hp) rfl ?_
        refine wp_iload_n dX2_perform_105 rfl ?_
        refine wp_iav (v := S i) dX2_perform_106 (gs_ne (by omega) hS) (by decide) (by omega) rfl ?_
        refine wp_iv3 dX2_perform_107 VX5_writeDown lX2_38 (gs_ne (by decide) h3) (rq0 rfl rfl) (Nat.le_of_ble_eq_true rfl) (sa_of (gs_eq (gs_lt h4)) (C_wwriteDown (sa_mk (by decide) (gs_ne (by decide) h3) rfl (gs_eq (gs_lt h4))) hiw.1 (by omega) hc (by omega) (by omega) ht5 ht7 ?_))
        dsimp only [pushR]
        rw [List.set_set]
        refine wp_pop dX2_perform_110 rfl ?_
        refine wp_goto 169 dX2_perform_111 rfl ?_
        exact wp_ret dX2_perform_169 rfl (by unfold cAct at hQ; (repeat' split at hQ) <;> first | (exfalso; omega) | exact hQ)
      rcases Decidable.em (K i = 4) with e19_4 | e19_4
      · refine wp_tableIn (off := 95) 114 dX2_perform_19 (by first | assumption | (unfold r32; omega)) (by omega) (by omega) (by rw [e19_4]; rfl) rfl ?_
        refine wp_aload_n dX2_perform_114 rfl ?_
        refine wp_aload_n dX2_perform_115 rfl ?_
        refine wp_getf dX2_perform_116 fX2_15 (gs_ne (by omega) hp) rfl ?_
        refine wp_iload_n dX2_perform_119 rfl ?_
        refine wp_iav (v := Fs i) dX2_perform_120 (gs_ne (by omega) hF) (by decide) (by omega) rfl ?_
        refine wp_iv1 dX2_perform_121 VX5_applyNext lX2_42 (gs_ne (by decide) h3) (rq0 rfl rfl) (Nat.le_of_ble_eq_true rfl) (sa_of (gs_eq (gs_lt h4)) (C_wapplyNext (sa_mk (by decide) (gs_ne (by decide) h3) rfl (gs_eq (gs_lt h4))) hiw.1 (by omega) (by omega) ht5 ht7 ?_))
        dsimp only [pushR]
        rw [List.set_set]
        refine wp_pop dX2_perform_124 rfl ?_
        refine wp_goto 169 dX2_perform_125 rfl ?_
        exact wp_ret dX2_perform_169 rfl (by unfold cAct at hQ; (repeat' split at hQ) <;> first | (exfalso; omega) | exact hQ)
      rcases Decidable.em (K i = 5) with e19_5 | e19_5
      · refine wp_tableIn (off := 109) 128 dX2_perform_19 (by first | assumption | (unfold r32; omega)) (by omega) (by omega) (by rw [e19_5]; rfl) rfl ?_
        refine wp_aload_n dX2_perform_128 rfl ?_
        refine wp_aload_n dX2_perform_129 rfl ?_
        refine wp_getf dX2_perform_130 fX2_15 (gs_ne (by omega) hp) rfl ?_
        refine wp_iload_n dX2_perform_133 rfl ?_
        refine wp_iav (v := Fs i) dX2_perform_134 (gs_ne (by omega) hF) (by decide) (by omega) rfl ?_
        refine wp_iv1 dX2_perform_135 VX5_pass lX2_45 (gs_ne (by decide) h3) (rq0 rfl rfl) (Nat.le_of_ble_eq_true rfl) (sa_of (gs_eq (gs_lt h4)) (C_wpass (sa_mk (by decide) (gs_ne (by decide) h3) rfl (gs_eq (gs_lt h4))) rfl ?_))
        dsimp only [pushR]
        rw [List.set_set]
        refine wp_pop dX2_perform_138 rfl ?_
        refine wp_goto 169 dX2_perform_139 rfl ?_
        exact wp_ret dX2_perform_169 rfl (by unfold cAct at hQ; (repeat' split at hQ) <;> first | (exfalso; omega) | exact hQ)
      rcases Decidable.em (K i = 6) with e19_6 | e19_6
      · refine wp_tableIn (off := 123) 142 dX2_perform_19 (by first | assumption | (unfold r32; omega)) (by omega) (by omega) (by rw [e19_6]; rfl) rfl ?_
        refine wp_aload_n dX2_perform_142 rfl ?_
        refine wp_aload_n dX2_perform_143 rfl ?_
        refine wp_getf dX2_perform_144 fX2_15 (gs_ne (by omega) hp) rfl ?_
        refine wp_iload_n dX2_perform_147 rfl ?_
        refine wp_iav (v := Fs i) dX2_perform_148 (gs_ne (by omega) hF) (by decide) (by omega) rfl ?_
        refine wp_iconst dX2_perform_149 ?_
        refine wp_iv2 dX2_perform_150 VX5_turn lX2_48 (gs_ne (by decide) h3) (rq0 rfl rfl) (Nat.le_of_ble_eq_true rfl) (sa_of (gs_eq (gs_lt h4)) (C_wturn (sa_mk (by decide) (gs_ne (by decide) h3) rfl (gs_eq (gs_lt h4))) hiw.1 (by omega) (by omega) (by omega) ?_))
        dsimp only [pushR]
        rw [List.set_set]
        refine wp_pop dX2_perform_153 rfl ?_
        refine wp_goto 169 dX2_perform_154 rfl ?_
        exact wp_ret dX2_perform_169 rfl (by unfold cAct at hQ; (repeat' split at hQ) <;> first | (exfalso; omega) | exact hQ)
      refine wp_tableOut 157 dX2_perform_19 (by first | assumption | (unfold r32; omega)) (by omega) rfl ?_
      refine wp_aload_n dX2_perform_157 rfl ?_
      refine wp_aload_n dX2_perform_158 rfl ?_
      refine wp_getf dX2_perform_159 fX2_15 (gs_ne (by omega) hp) rfl ?_
      refine wp_iload_n dX2_perform_162 rfl ?_
      refine wp_iav (v := Fs i) dX2_perform_163 (gs_ne (by omega) hF) (by decide) (by omega) rfl ?_
      refine wp_iconst dX2_perform_164 ?_
      refine wp_iv2 dX2_perform_165 VX5_turn lX2_48 (gs_ne (by decide) h3) (rq0 rfl rfl) (Nat.le_of_ble_eq_true rfl) (sa_of (gs_eq (gs_lt h4)) (C_wturn (sa_mk (by decide) (gs_ne (by decide) h3) rfl (gs_eq (gs_lt h4))) hiw.1 (by omega) (by omega) (by omega) ?_))
      dsimp only [pushR]
      rw [List.set_set]
      refine wp_pop dX2_perform_168 rfl ?_
      exact wp_ret dX2_perform_169 rfl (by unfold cAct at hQ; (repeat' split at hQ) <;> first | (exfalso; omega) | exact hQ)
    · exact wp_ret dX2_perform_12 rfl (by unfold cAct at hQ; (repeat' split at hQ) <;> first | (exfalso; omega) | exact hQ)
set_option maxHeartbeats 2000000 in
theorem C_does (m51 : h[51]? = some (oO 7 (mF dn km ln at_ ft ac mn om fw mo un ik))) (m52 : h[52]? = some (oI 1014 g0)) (m56 : h[56]? = some (oI 90 P)) (hc : 0 ≤ c ∧ c < 6) (hd : 0 ≤ d ∧ d < 5) (hw : WFA (P (15 * c + 3 * d)) (P (15 * c + 3 * d + 1)) (P (15 * c + 3 * d + 2))) (hA : AK B f g) (hB : 1000 ≤ B ∧ B ≤ 8000000) (hQ : Q none (h.set 52 (oI 1014 (rAct g c (P (15 * c + 3 * d)) (P (15 * c + 3 * d + 1)) (P (15 * c + 3 * d + 2)))))) : Cl X kX7_does [vR 51, vI c, vI d] (h.set 52 (oI 1014 g)) Q := by
  refine cl_of rfl (Nat.le_of_ble_eq_true rfl) rfl ?_
  have hI := hA.2.1
  have hPM := hA.2.2.1
  have hR := hI.r (by omega)
  have cl := hI.cl hc
  have hset := hI.set
  have n2 := hI.n60 (j := 2) (by omega)
  unfold WFA at hw
  refine wp_bipush dX7_does_0 rfl ?_
  refine wp_iload_n dX7_does_2 rfl ?_
  refine wp_imul dX7_does_3 ?_
  refine wp_iconst dX7_does_4 ?_
  refine wp_iload_n dX7_does_5 rfl ?_
  refine wp_imul dX7_does_6 ?_
  refine wp_iadd dX7_does_7 ?_
  refine wp_istore_n (L' := [some (vR 51), some (vI c), some (vI d), some (vI (15 * c + 3 * d)), none, none]) dX7_does_8 (by decide) rfl ?_
  refine wp_aload_n dX7_does_9 rfl ?_
  refine wp_getf dX7_does_10 fX7_22 (gs_ne (by decide) m51) rfl ?_
  refine wp_iload_n dX7_does_13 rfl ?_
  refine wp_iconst dX7_does_14 ?_
  refine wp_iadd dX7_does_15 ?_
  refine wp_iav (v := P (15 * c + 3 * d + 1)) dX7_does_16 (gs_ne (by decide) m56) (by decide) (by omega) rfl ?_
  refine wp_istore (L' := [some (vR 51), some (vI c), some (vI d), some (vI (15 * c + 3 * d)), some (vI (P (15 * c + 3 * d + 1))), none]) dX7_does_17 (by decide) rfl ?_
  refine wp_aload_n dX7_does_19 rfl ?_
  refine wp_getf dX7_does_20 fX7_22 (gs_ne (by decide) m51) rfl ?_
  refine wp_iload_n dX7_does_23 rfl ?_
  refine wp_iconst dX7_does_24 ?_
  refine wp_iadd dX7_does_25 ?_
  refine wp_iav (v := P (15 * c + 3 * d + 2)) dX7_does_26 (gs_ne (by decide) m56) (by decide) (by omega) rfl ?_
  refine wp_istore (L' := [some (vR 51), some (vI c), some (vI d), some (vI (15 * c + 3 * d)), some (vI (P (15 * c + 3 * d + 1))), some (vI (P (15 * c + 3 * d + 2)))]) dX7_does_27 (by decide) rfl ?_
  refine wp_aload_n dX7_does_29 rfl ?_
  refine wp_getf dX7_does_30 fX7_22 (gs_ne (by decide) m51) rfl ?_
  refine wp_iload_n dX7_does_33 rfl ?_
  refine wp_iav (v := P (15 * c + 3 * d)) dX7_does_34 (gs_ne (by decide) m56) (by decide) (by omega) rfl ?_
  rcases Decidable.em (P (15 * c + 3 * d) = 0) with e35_0 | e35_0
  · refine wp_tableIn (off := 41) 76 dX7_does_35 (by first | assumption | (unfold r32; omega)) (by omega) (by omega) (by rw [e35_0]; rfl) rfl ?_
    refine wp_aload_n dX7_does_76 rfl ?_
    refine wp_iload_n dX7_does_77 rfl ?_
    refine wp_iload dX7_does_78 rfl ?_
    refine wp_iv2 dX7_does_80 VX7_doGet lX7_161 (gs_ne (by decide) m51) (rq0 rfl rfl) (Nat.le_of_ble_eq_true rfl) (sa_of (gs_eq (gs_lt m52)) (C_doGet (sa_mk (by decide) (gs_ne (by decide) m51) rfl (gs_eq (gs_lt m52))) hI.bd (by omega) hc (by omega) cl.1 ?_))
    dsimp only [pushR]
    rw [List.set_set]
    refine wp_pop dX7_does_83 rfl ?_
    refine wp_goto 159 dX7_does_84 rfl ?_
    exact wp_ret dX7_does_159 rfl (by unfold rAct at hQ; (repeat' split at hQ) <;> first | (exfalso; omega) | exact hQ)
  rcases Decidable.em (P (15 * c + 3 * d) = 1) with e35_1 | e35_1
  · refine wp_tableIn (off := 52) 87 dX7_does_35 (by first | assumption | (unfold r32; omega)) (by omega) (by omega) (by rw [e35_1]; rfl) rfl ?_
    refine wp_aload_n dX7_does_87 rfl ?_
    refine wp_iload_n dX7_does_88 rfl ?_
    refine wp_iv1 dX7_does_89 VX7_doLook lX7_167 (gs_ne (by decide) m51) (rq0 rfl rfl) (Nat.le_of_ble_eq_true rfl) (sa_of (gs_eq (gs_lt m52)) (C_doLook (sa_mk (by decide) (gs_ne (by decide) m51) rfl (gs_eq (gs_lt m52))) hI.bd (by omega) hc cl.2.1 cl.1 n2 (fun r hr => hI.n60 (by omega)) ?_))
    dsimp only [pushR]
    rw [List.set_set]
    refine wp_pop dX7_does_92 rfl ?_
    refine wp_goto 159 dX7_does_93 rfl ?_
    exact wp_ret dX7_does_159 rfl (by unfold rAct at hQ; (repeat' split at hQ) <;> first | (exfalso; omega) | exact hQ)
  rcases Decidable.em (P (15 * c + 3 * d) = 2) with e35_2 | e35_2
  · refine wp_tableIn (off := 61) 96 dX7_does_35 (by first | assumption | (unfold r32; omega)) (by omega) (by omega) (by rw [e35_2]; rfl) rfl ?_
    refine wp_aload_n dX7_does_96 rfl ?_
    refine wp_iload_n dX7_does_97 rfl ?_
    refine wp_iv1 dX7_does_98 VX7_doFill lX7_170 (gs_ne (by decide) m51) (rq0 rfl rfl) (Nat.le_of_ble_eq_true rfl) (sa_of (gs_eq (gs_lt m52)) (C_doFill (sa_mk (by decide) (gs_ne (by decide) m51) rfl (gs_eq (gs_lt m52))) hI.bd (by omega) (by omega) hc cl.2.1 cl.1 (hI.n0 (by omega)) hset.1.1 ?_))
    dsimp only [pushR]
    rw [List.set_set]
    refine wp_pop dX7_does_101 rfl ?_
    refine wp_goto 159 dX7_does_102 rfl ?_
    exact wp_ret dX7_does_159 rfl (by unfold rAct at hQ; (repeat' split at hQ) <;> first | (exfalso; omega) | exact hQ)
  rcases Decidable.em (P (15 * c + 3 * d) = 3) with e35_3 | e35_3
  · refine wp_tableIn (off := 70) 105 dX7_does_35 (by first | assumption | (unfold r32; omega)) (by omega) (by omega) (by rw [e35_3]; rfl) rfl ?_
    refine wp_aload_n dX7_does_105 rfl ?_
    refine wp_iload_n dX7_does_106 rfl ?_
    refine wp_iload dX7_does_107 rfl ?_
    refine wp_iload dX7_does_109 rfl ?_
    refine wp_iv3 dX7_does_111 VX7_doWrite lX7_175 (gs_ne (by decide) m51) (rq0 rfl rfl) (Nat.le_of_ble_eq_true rfl) (sa_of (gs_eq (gs_lt m52)) (C_doWrite (sa_mk (by decide) (gs_ne (by decide) m51) rfl (gs_eq (gs_lt m52))) hI.bd (by omega) hc (by omega) (by omega) cl.1 n2 ?_))
    dsimp only [pushR]
    rw [List.set_set]
    refine wp_pop dX7_does_114 rfl ?_
    refine wp_goto 159 dX7_does_115 rfl ?_
    exact wp_ret dX7_does_159 rfl (by unfold rAct at hQ; (repeat' split at hQ) <;> first | (exfalso; omega) | exact hQ)
  rcases Decidable.em (P (15 * c + 3 * d) = 4) with e35_4 | e35_4
  · refine wp_tableIn (off := 83) 118 dX7_does_35 (by first | assumption | (unfold r32; omega)) (by omega) (by omega) (by rw [e35_4]; rfl) rfl ?_
    refine wp_aload_n dX7_does_118 rfl ?_
    refine wp_iload dX7_does_119 rfl ?_
    refine wp_iv1 dX7_does_121 VX7_doApply lX7_182 (gs_ne (by decide) m51) (rq0 rfl rfl) (Nat.le_of_ble_eq_true rfl) (sa_of (gs_eq (gs_lt m52)) (C_doApply (sa_mk (by decide) (gs_ne (by decide) m51) rfl (gs_eq (gs_lt m52))) hI.bd (by omega) (by omega) n2 ⟨(hI.n60 (by omega)).1, hPM _ (by omega)⟩ (fun q => apK_b hI (by omega) (by have := hPM (P (15 * c + 3 * d + 1)) (by omega); have := hI.n60 (j := 10 + (P (15 * c + 3 * d + 1))) (by omega); omega)) hset.2.2.1 hset.2.2.2.2.1 (hI.n0 (by omega)) ?_))
    dsimp only [pushR]
    rw [List.set_set]
    refine wp_pop dX7_does_124 rfl ?_
    refine wp_goto 159 dX7_does_125 rfl ?_
    exact wp_ret dX7_does_159 rfl (by unfold rAct at hQ; (repeat' split at hQ) <;> first | (exfalso; omega) | exact hQ)
  rcases Decidable.em (P (15 * c + 3 * d) = 5) with e35_5 | e35_5
  · refine wp_tableIn (off := 93) 128 dX7_does_35 (by first | assumption | (unfold r32; omega)) (by omega) (by omega) (by rw [e35_5]; rfl) rfl ?_
    refine wp_aload_n dX7_does_128 rfl ?_
    refine wp_getf dX7_does_129 fX7_9 (gs_ne (by decide) m51) rfl ?_
    refine wp_iconst dX7_does_132 ?_
    refine wp_dup2 dX7_does_133 rfl rfl ?_
    refine wp_iav (v := g 0) dX7_does_134 (gs_eq (gs_lt m52)) (by decide) (by omega) rfl ?_
    refine wp_iload dX7_does_135 rfl ?_
    refine wp_iadd dX7_does_137 ?_
    refine wp_isv dX7_does_138 (gs_eq (gs_lt m52)) (by decide) (by omega) ?_
    refine wp_goto 159 dX7_does_139 rfl ?_
    exact wp_ret dX7_does_159 rfl (by rw [List.set_set]; unfold rAct at hQ; (repeat' split at hQ) <;> first | (exfalso; omega) | exact hQ)
  rcases Decidable.em (P (15 * c + 3 * d) = 6) with e35_6 | e35_6
  · refine wp_tableIn (off := 107) 142 dX7_does_35 (by first | assumption | (unfold r32; omega)) (by omega) (by omega) (by rw [e35_6]; rfl) rfl ?_
    refine wp_aload_n dX7_does_142 rfl ?_
    refine wp_iload dX7_does_143 rfl ?_
    refine wp_iconst dX7_does_145 ?_
    refine wp_iv2 dX7_does_146 VX7_doCold lX7_190 (gs_ne (by decide) m51) (rq0 rfl rfl) (Nat.le_of_ble_eq_true rfl) (sa_of (gs_eq (gs_lt m52)) (C_doCold (sa_mk (by decide) (gs_ne (by decide) m51) rfl (gs_eq (gs_lt m52))) hR (by omega) (by omega) ?_))
    dsimp only [pushR]
    rw [List.set_set]
    refine wp_goto 159 dX7_does_149 rfl ?_
    exact wp_ret dX7_does_159 rfl (by unfold rAct at hQ; (repeat' split at hQ) <;> first | (exfalso; omega) | exact hQ)
  refine wp_tableOut 152 dX7_does_35 (by first | assumption | (unfold r32; omega)) (by omega) rfl ?_
  refine wp_aload_n dX7_does_152 rfl ?_
  refine wp_iload dX7_does_153 rfl ?_
  refine wp_iconst dX7_does_155 ?_
  refine wp_iv2 dX7_does_156 VX7_doCold lX7_190 (gs_ne (by decide) m51) (rq0 rfl rfl) (Nat.le_of_ble_eq_true rfl) (sa_of (gs_eq (gs_lt m52)) (C_doCold (sa_mk (by decide) (gs_ne (by decide) m51) rfl (gs_eq (gs_lt m52))) hR (by omega) (by omega) ?_))
  dsimp only [pushR]
  rw [List.set_set]
  exact wp_ret dX7_does_159 rfl (by unfold rAct at hQ; (repeat' split at hQ) <;> first | (exfalso; omega) | exact hQ)
end PF_
