/-! the acts of an order, both faces -/
def exC (K Fs S : Int → Int → Int) (o : Int → Int) : Nat → Int → (Int → Int) → (Int → Int) → (Int → Int)
  | 0, _, _, f => f
  | m + 1, i, dd, f => exC K Fs S o m (i + 1) (ud dd (o i) (dd (o i) + 1)) (cAct f (o i) (K (o i) (dd (o i))) (Fs (o i) (dd (o i))) (S (o i) (dd (o i))))
def exR (P o : Int → Int) : Nat → Int → (Int → Int) → (Int → Int) → (Int → Int)
  | 0, _, _, g => g
  | m + 1, i, dd, g => exR P o m (i + 1) (ud dd (o i) (dd (o i) + 1)) (rAct g (o i) (P (15 * o i + 3 * dd (o i))) (P (15 * o i + 3 * dd (o i) + 1)) (P (15 * o i + 3 * dd (o i) + 2)))
/-- an order that fits the plans -/
def ORD (cl sz o : Int → Int) (n : Int) : Prop := (1 ≤ n ∧ n ≤ 8) ∧ INo cl o n ∧ ∀ c, 0 ≤ c ∧ c < 6 → cl c = 1 → cntO o c n.toNat = sz c
def DON (o dd : Int → Int) (i : Int) : Prop := ∀ c, 0 ≤ c ∧ c < 6 → dd c = cntO o c i.toNat
section EX_
variable {X : XS} {h h0 : AH} {Q : Option AV → AH → Prop} {K Fs S : Int → Int → Int} {sz P PS o cl dd f g fs fb ws fv : Int → Int} {n t s l m un B x key i dn km ln at_ ft ik : Int} {pl : Int → Nat} {b : Nat × Nat}
theorem DON.st (hd : DON o dd i) (hi : 0 ≤ i) : DON o (ud dd (o i) (dd (o i) + 1)) (i + 1) := fun c hc => by
  have e : (i + 1).toNat = i.toNat + 1 := by omega
  have e2 : cntO o c (i.toNat + 1) = cntO o c i.toNat + (if o ((i.toNat : Nat) : Int) = c then 1 else 0) := rfl
  rw [e, e2, show ((i.toNat : Nat) : Int) = i by omega]
  have := hd c hc
  rcases Decidable.em (c = o i) with q | q
  · subst q; rw [ud_eq, if_pos rfl]; omega
  · rw [ud_ne q, if_neg (fun z => q z.symm)]; omega
theorem DON.lt (hd : DON o dd i) (hO : ORD cl sz o n) (hi : 0 ≤ i ∧ i < n) : (0 ≤ o i ∧ o i < 6) ∧ 0 ≤ dd (o i) ∧ dd (o i) < sz (o i) := by
  have a := hO.2.1 i hi
  have b := hd (o i) a.1
  have c := hO.2.2 (o i) a.1 a.2
  have d := cnt_lt (o := o) (c := o i) (i := i.toNat) (m := n.toNat) (by omega) (by rw [show ((i.toNat : Nat) : Int) = i by omega])
  have e := cntO_b (o := o) (c := o i) i.toNat
  omega
theorem ex_eq (hR : PRel K Fs S sz P PS) (hO : ORD cl sz o n) : ∀ (mm : Nat) (i : Int) (dd f g : Int → Int) (B : Int), i + mm = n → 0 ≤ i → DON o dd i → AK B f g → 1000 ≤ B → B + 1000 * mm ≤ 8000000 → AK (B + 1000 * mm) (exC K Fs S o mm i dd f) (exR P o mm i dd g) := by
  intro mm
  induction mm with
  | zero => intro i dd f g B _ _ _ h _ _; exact h.up (by omega)
  | succ mm ih =>
    intro i dd f g B h1 h2 hd hA hB hBB
    have q := hd.lt hO ⟨h2, by omega⟩
    have r := (hR (o i) q.1).2.2 (dd (o i)) q.2
    have a := hA.act ⟨hB, by omega⟩ q.1 r.1
    unfold exC exR
    rw [r.2.1, act_cong (g := g) (c := o i) r.2.2.1 r.2.2.2]
    exact (ih (i + 1) _ _ _ (B + 1000) (by omega) (by omega) (hd.st h2) a (by omega) (by omega)).up (by omega)
set_option maxHeartbeats 2000000 in
theorem lp_ex {it : Int} (h03 : h0[3]? = some (oO 5 [vR 4])) (hP : PL h0 pl K Fs S sz) (hR : PRel K Fs S sz P PS) (hO : ORD cl sz o n) : ∀ (mm : Nat) (i : Int) (dd f g : Int → Int) (B : Int) (h : AH) (y8 : Option AV), i + mm = n → 0 ≤ i → DON o dd i → AK B f g → 1000 ≤ B → B + 1000 * mm ≤ 8000000 → OPL h0 h n t s l m o fs dd fb f → (∀ h' dd' y8, OPL h0 h' n t s l m o fs dd' fb (exC K Fs S o mm i dd f) → Wp X kX1_goThrough 130 [some (vR 9), some (vR 1), some (vR 16), some (vI x), some (vI key), some (vI 1), some (vI it), some (vI n), y8] [] h' b Q) → Wp X kX1_goThrough 75 [some (vR 9), some (vR 1), some (vR 16), some (vI x), some (vI key), some (vI 1), some (vI it), some (vI i), y8] [] h b Q := by
  intro mm
  induction mm with
  | zero =>
    intro i dd f g B h y8 q1 q2 hd hA hB hBB hp hQ
    obtain ⟨s1, s2, s9, s10, s11, s12, s13, s4⟩ := id hp
    have hn := hO.1
    have e : i = n := by omega
    subst e
    refine wp_iload dX1_goThrough_75 rfl ?_
    refine wp_aload_n dX1_goThrough_77 rfl ?_
    refine wp_getf dX1_goThrough_78 fX1_68 s9 rfl ?_
    refine wp_icmp_ge 130 dX1_goThrough_81 rfl (by first | assumption | (unfold r32; omega)) (by first | assumption | (unfold r32; omega)) (fun c81 => ?_) (fun c81 => ?_)
    · exact hQ _ _ _ hp
    · exfalso; omega
  | succ mm ih =>
    intro i dd f g B h y8 q1 q2 hd hA hB hBB hp hQ
    obtain ⟨s1, s2, s9, s10, s11, s12, s13, s4⟩ := id hp
    have s3 := (s2 3 (by decide) (by decide)).trans h03
    have s16 := (s2 16 (by decide) (by decide)).trans hP.1
    have hn := hO.1
    have q := hd.lt hO ⟨q2, by omega⟩
    have r := (hR (o i) q.1).2
    have rr := r.2 (dd (o i)) q.2
    have a := hA.act ⟨hB, by omega⟩ q.1 rr.1
    have p := hP.2.1 (o i) (by omega)
    have pb := p.1
    have u0 := (s2 (pl (o i)) (by omega) (by omega)).trans p.2.1
    have u1 := (s2 (pl (o i) + 1) (by omega) (by omega)).trans p.2.2.1
    have u2 := (s2 (pl (o i) + 2) (by omega) (by omega)).trans p.2.2.2.1
    have u3 := (s2 (pl (o i) + 3) (by omega) (by omega)).trans p.2.2.2.2
    unfold exC at hQ
    refine wp_iload dX1_goThrough_75 rfl ?_
    refine wp_aload_n dX1_goThrough_77 rfl ?_
    refine wp_getf dX1_goThrough_78 fX1_68 s9 rfl ?_
    refine wp_icmp_ge 130 dX1_goThrough_81 rfl (by first | assumption | (unfold r32; omega)) (by first | assumption | (unfold r32; omega)) (fun c81 => ?_) (fun c81 => ?_)
    · exfalso; omega
    · refine wp_aload_n dX1_goThrough_84 rfl ?_
      refine wp_getf dX1_goThrough_85 fX1_9 s9 rfl ?_
      refine wp_iload dX1_goThrough_88 rfl ?_
      refine wp_iav (v := o i) dX1_goThrough_90 s10 (by decide) (by omega) rfl ?_
      refine wp_istore (L' := [some (vR 9), some (vR 1), some (vR 16), some (vI x), some (vI key), some (vI 1), some (vI it), some (vI i), some (vI (o i))]) dX1_goThrough_91 (by decide) rfl ?_
      refine wp_aload_n dX1_goThrough_93 rfl ?_
      refine wp_iload dX1_goThrough_94 rfl ?_
      refine wp_aav (j' := (pl (o i))) dX1_goThrough_96 s16 (by decide) (by omega) (plF_at q.1) ?_
      refine wp_aload_n dX1_goThrough_97 rfl ?_
      refine wp_getf dX1_goThrough_98 fX1_18 s9 rfl ?_
      refine wp_iload dX1_goThrough_101 rfl ?_
      refine wp_iav (v := dd (o i)) dX1_goThrough_103 s12 (by decide) (by omega) rfl ?_
      refine wp_iload dX1_goThrough_104 rfl ?_
      refine wp_aload_n dX1_goThrough_106 rfl ?_
      refine wp_getf dX1_goThrough_107 fX1_25 s9 rfl ?_
      refine wp_iv3 dX1_goThrough_110 VX2_perform lX1_71 u0 (rq0 rfl rfl) (Nat.le_of_ble_eq_true rfl) (sa_of s4 (C_perform u0 u1 u2 u3 s3 s4 (by omega) (by omega) q.1 rr.1 hA ⟨hB, by omega⟩ ?_))
      dsimp only [pushR]
      refine wp_aload_n dX1_goThrough_113 rfl ?_
      refine wp_getf dX1_goThrough_114 fX1_18 (gs_ne (by decide) s9) rfl ?_
      refine wp_iload dX1_goThrough_117 rfl ?_
      refine wp_dup2 dX1_goThrough_119 rfl rfl ?_
      refine wp_iav (v := dd (o i)) dX1_goThrough_120 (gs_ne (by decide) s12) (by decide) (by omega) rfl ?_
      refine wp_iconst dX1_goThrough_121 ?_
      refine wp_iadd dX1_goThrough_122 ?_
      refine wp_isv dX1_goThrough_123 (gs_ne (by decide) s12) (by decide) (by omega) ?_
      refine wp_iinc (L' := [some (vR 9), some (vR 1), some (vR 16), some (vI x), some (vI key), some (vI 1), some (vI it), some (vI (i + 1)), some (vI (o i))]) dX1_goThrough_124 rfl rfl ?_
      refine wp_goto 75 dX1_goThrough_127 rfl ?_
      exact ih (i + 1) _ _ _ (B + 1000) _ _ (by omega) (by omega) (hd.st q2) a (by omega) (by omega) ⟨by simp only [List.length_set]; exact s1, fun j q4 q => by (repeat rw [List.getElem?_set_ne (by omega)]); exact s2 j q4 q, (gs_ne (by decide) (gs_ne (by decide) s9)), (gs_ne (by decide) (gs_ne (by decide) s10)), (gs_ne (by decide) (gs_ne (by decide) s11)), (gs_eq (gs_l (gs_lt s12))), (gs_ne (by decide) (gs_ne (by decide) s13)), (gs_ne (by decide) (gs_eq (gs_lt s4)))⟩ hQ
set_option maxHeartbeats 2000000 in
theorem lp_er {la : Int} (h56 : h0[56]? = some (oI 90 P)) (hR : PRel K Fs S sz P PS) (hO : ORD cl sz o n) : ∀ (mm : Nat) (i : Int) (dd f g : Int → Int) (B : Int) (h : AH), i + mm = n → 0 ≤ i → DON o dd i → AK B f g → 1000 ≤ B → B + 1000 * mm ≤ 8000000 → RPO h0 h dn km ln at_ ft ik n t s l m un o ws dd fv g → (∀ h' dd', RPO h0 h' dn km ln at_ ft ik n t s l m un o ws dd' fv (exR P o mm i dd g) → Wp X kX7_goesThrough 179 [some (vR 51), some (vI x), some (vI key), some (vI 1), some (vI la), some (vI n)] [] h' b Q) → Wp X kX7_goesThrough 125 [some (vR 51), some (vI x), some (vI key), some (vI 1), some (vI la), some (vI i)] [] h b Q := by
  intro mm
  induction mm with
  | zero =>
    intro i dd f g B h q1 q2 hd hA hB hBB hp hQ
    obtain ⟨s1, s2, s51, s52, s60, s61, s62, s63⟩ := id hp
    have hn := hO.1
    have e : i = n := by omega
    subst e
    refine wp_iload dX7_goesThrough_125 rfl ?_
    refine wp_aload_n dX7_goesThrough_127 rfl ?_
    refine wp_getf dX7_goesThrough_128 fX7_257 s51 rfl ?_
    refine wp_icmp_ge 179 dX7_goesThrough_131 rfl (by first | assumption | (unfold r32; omega)) (by first | assumption | (unfold r32; omega)) (fun c131 => ?_) (fun c131 => ?_)
    · exact hQ _ _ hp
    · exfalso; omega
  | succ mm ih =>
    intro i dd f g B h q1 q2 hd hA hB hBB hp hQ
    obtain ⟨s1, s2, s51, s52, s60, s61, s62, s63⟩ := id hp
    have s56 := (s2 56 (by decide) (by decide) (by decide)).trans h56
    have hn := hO.1
    have q := hd.lt hO ⟨q2, by omega⟩
    have r := (hR (o i) q.1).2
    have rr := r.2 (dd (o i)) q.2
    have ww : WFA (P (15 * o i + 3 * dd (o i))) (P (15 * o i + 3 * dd (o i) + 1)) (P (15 * o i + 3 * dd (o i) + 2)) := by
      have r1 := rr.1
      have r2 := rr.2.2.1
      have r3 := rr.2.2.2
      rw [rr.2.1]
      unfold WFA at *
      omega
    have a := hA.act ⟨hB, by omega⟩ q.1 ww
    unfold exR at hQ
    refine wp_iload dX7_goesThrough_125 rfl ?_
    refine wp_aload_n dX7_goesThrough_127 rfl ?_
    refine wp_getf dX7_goesThrough_128 fX7_257 s51 rfl ?_
    refine wp_icmp_ge 179 dX7_goesThrough_131 rfl (by first | assumption | (unfold r32; omega)) (by first | assumption | (unfold r32; omega)) (fun c131 => ?_) (fun c131 => ?_)
    · exfalso; omega
    · refine wp_aload_n dX7_goesThrough_134 rfl ?_
      refine wp_aload_n dX7_goesThrough_135 rfl ?_
      refine wp_getf dX7_goesThrough_136 fX7_51 s51 rfl ?_
      refine wp_iload dX7_goesThrough_139 rfl ?_
      refine wp_iav (v := o i) dX7_goesThrough_141 s60 (by decide) (by omega) rfl ?_
      refine wp_aload_n dX7_goesThrough_142 rfl ?_
      refine wp_getf dX7_goesThrough_143 fX7_57 s51 rfl ?_
      refine wp_aload_n dX7_goesThrough_146 rfl ?_
      refine wp_getf dX7_goesThrough_147 fX7_51 s51 rfl ?_
      refine wp_iload dX7_goesThrough_150 rfl ?_
      refine wp_iav (v := o i) dX7_goesThrough_152 s60 (by decide) (by omega) rfl ?_
      refine wp_iav (v := dd (o i)) dX7_goesThrough_153 s62 (by decide) (by omega) rfl ?_
      refine wp_iv2 dX7_goesThrough_154 VX7_does lX7_285 s51 (rq0 rfl rfl) (Nat.le_of_ble_eq_true rfl) (sa_of s52 (C_does s51 s52 s56 q.1 (by omega) ww hA ⟨hB, by omega⟩ ?_))
      dsimp only [pushR]
      refine wp_aload_n dX7_goesThrough_157 rfl ?_
      refine wp_getf dX7_goesThrough_158 fX7_57 (gs_ne (by decide) s51) rfl ?_
      refine wp_aload_n dX7_goesThrough_161 rfl ?_
      refine wp_getf dX7_goesThrough_162 fX7_51 (gs_ne (by decide) s51) rfl ?_
      refine wp_iload dX7_goesThrough_165 rfl ?_
      refine wp_iav (v := o i) dX7_goesThrough_167 (gs_ne (by decide) s60) (by decide) (by omega) rfl ?_
      refine wp_dup2 dX7_goesThrough_168 rfl rfl ?_
      refine wp_iav (v := dd (o i)) dX7_goesThrough_169 (gs_ne (by decide) s62) (by decide) (by omega) rfl ?_
      refine wp_iconst dX7_goesThrough_170 ?_
      refine wp_iadd dX7_goesThrough_171 ?_
      refine wp_isv dX7_goesThrough_172 (gs_ne (by decide) s62) (by decide) (by omega) ?_
      refine wp_iinc (L' := [some (vR 51), some (vI x), some (vI key), some (vI 1), some (vI la), some (vI (i + 1))]) dX7_goesThrough_173 rfl rfl ?_
      refine wp_goto 125 dX7_goesThrough_176 rfl ?_
      exact ih (i + 1) _ _ _ (B + 1000) _ (by omega) (by omega) (hd.st q2) a (by omega) (by omega) ⟨by simp only [List.length_set]; exact s1, fun j q51 q52 q => by (repeat rw [List.getElem?_set_ne (by omega)]); exact s2 j q51 q52 q, (gs_ne (by decide) (gs_ne (by decide) s51)), (gs_ne (by decide) (gs_eq (gs_lt s52))), (gs_ne (by decide) (gs_ne (by decide) s60)), (gs_ne (by decide) (gs_ne (by decide) s61)), (gs_eq (gs_l (gs_lt s62))), (gs_ne (by decide) (gs_ne (by decide) s63))⟩ hQ
end EX_
