/-! acts on both rows: get, look, go, tick, set, cold -/
section SK
variable {f g : Int → Int} {B : Int}
theorem im_u1 (hI : IM B g) {j : Int} (h : j = 0 ∨ j = 1 ∨ 13 ≤ j ∧ j < 36) : CellM (B + 100) j (g j + 1) := by
  have := hI.b j
  have := hI.n0 (j := j) (by omega)
  exact cm_ct h (by omega)
theorem sm_get {c k : Int} (h : Sm f g) (hI : IM B g) (hc : 0 ≤ c ∧ c < 6) (hk : 0 ≤ k ∧ k < 10) : (wGet f c k).1 = (spGet g c k).1 ∧ Sm (wGet f c k).2 (spGet g c k).2 ∧ IM (B + 100) (spGet g c k).2 := by
  obtain ⟨h0, h8, h14⟩ := h
  have hh := h0.H c hc
  have hcl := hI.cl hc
  have hfa := hh.1
  have ha := hcl.1
  have hb1 := hA_b hc
  have hb2 := cA_b hc
  unfold wGet spGet
  dsimp only
  rw [hfa]
  generalize g (hA c + 0) = a at ha ⊢
  have S := h0.S a k ha hk
  have A0 := h0.A
  unfold SmA at A0
  unfold EA at S
  have p1 := sA_b ha hk
  have p2 := eA_b ha hk
  have p3 := oA_b ha hk
  have p4 := lA_b ha hk
  have t9 : f 9 = g 9 := h0.T 6 (by omega)
  have en := hI.en ha hk
  have ol := hI.ol ha hk
  have le := hI.le ha hk
  have n0 := hI.n0 (j := 0) (by omega)
  have b0 := hI.b 0
  have n1 := hI.n0 (j := 1) (by omega)
  have b1 := hI.b 1
  have st := hI.set
  have be := hI.b (eA a k + 5)
  have hU : IM (B + 100) g := hI.up (by omega)
  rcases Decidable.em (g 0 < g (eA a k)) with c1 | c1
  · rw [if_pos (show f 0 < f (sA a k + 5) by omega), if_pos c1]
    refine ⟨S.1, ⟨sm_hit ha hk h0 hI, (by simp only [ud]; (repeat rw [if_neg (by omega)]); assumption), (by simp only [ud]; (repeat rw [if_neg (by omega)]); assumption)⟩, ?_⟩
    have v1 := im_u1 hI (j := 26 + k) (by omega)
    have v2 := im_u1 hI (j := 16) (by omega)
    exact (((hU.wr (cm_en ha hk (by omega) (by omega) (by omega) (by omega))).wr (cm_en ha hk (by omega) (by omega) (by omega) (by omega))).wr v1).wr v2
  rw [if_neg (show ¬ f 0 < f (sA a k + 5) by omega), if_neg c1]
  rcases Decidable.em (g 9 = 1) with c2 | c2
  · rw [if_pos (show f 9 = 1 by omega)]
    rcases Decidable.em (g 0 < g (lA a k)) with c3 | c3
    · rw [if_pos (show f 0 < f (sA a k + 10) by omega), if_pos (show g 9 = 1 ∧ g 0 < g (lA a k) from ⟨c2, c3⟩)]
      rcases Decidable.em (g (lA a k + 1) = c) with c4 | c4
      · rw [if_pos (show f (sA a k + 8) = c by omega), if_pos c4]
        exact ⟨rfl, ⟨h0, h8, h14⟩, hU⟩
      · rw [if_neg (show ¬ f (sA a k + 8) = c by omega), if_neg c4]
        unfold wAb
        rcases Decidable.em (g 0 < g (oA a k)) with c5 | c5
        · rw [if_pos (show f 0 < f (sA a k + 7) by omega), if_pos c5]
          exact ⟨by show 1000 + f (sA a k + 6) = 1000 + g (oA a k + 1); omega, ⟨sm_old h0 hI, (by simp only [ud]; (repeat rw [if_neg (by omega)]); assumption), (by simp only [ud]; (repeat rw [if_neg (by omega)]); assumption)⟩, hU.wr (im_u1 hI (by omega))⟩
        · rw [if_neg (show ¬ f 0 < f (sA a k + 7) by omega), if_neg c5]
          exact ⟨rfl, ⟨sm_wait h0 hI, (by simp only [ud]; (repeat rw [if_neg (by omega)]); assumption), (by simp only [ud]; (repeat rw [if_neg (by omega)]); assumption)⟩, hU.wr (im_u1 hI (by omega))⟩
    · rw [if_neg (show ¬ f 0 < f (sA a k + 10) by omega), if_neg (show ¬ (g 9 = 1 ∧ g 0 < g (lA a k)) from fun q => c3 q.2), if_pos c2]
      refine ⟨rfl, ⟨sm_lease hc ha hk h0 hI, (by simp only [ud]; (repeat rw [if_neg (by omega)]); assumption), (by simp only [ud]; (repeat rw [if_neg (by omega)]); assumption)⟩, ?_⟩
      exact ((((((((hU.wr (cm_hi hc (by omega) (by omega) (by omega) (by omega) (by omega) (by omega) (by omega) (by omega))).wr (cm_hi hc (by omega) (by omega) (by omega) (by omega) (by omega) (by omega) (by omega) (by omega))).wr (cm_hi hc (by omega) (by omega) (by omega) (by omega) (by omega) (by omega) (by omega) (by omega))).wr (im_u1 hI (by omega))).wr (cm_hi hc (by omega) (by omega) (by omega) (by omega) (by omega) (by omega) (by omega) (by omega))).wr (cm_l0 ha hk (by omega))).wr (cm_le ha hk (by omega) (by omega) (by omega))).wr (cm_le ha hk (by omega) (by omega) (by omega))).wr (im_u1 hI (by omega))
  · rw [if_neg (show ¬ f 9 = 1 by omega), if_neg (show ¬ (g 9 = 1 ∧ g 0 < g (lA a k)) from fun q => c2 q.1), if_neg c2]
    refine ⟨rfl, ⟨sm_free hc hk h0 hI, (by simp only [ud]; (repeat rw [if_neg (by omega)]); assumption), (by simp only [ud]; (repeat rw [if_neg (by omega)]); assumption)⟩, ?_⟩
    exact (((hU.wr (cm_hi hc (by omega) (by omega) (by omega) (by omega) (by omega) (by omega) (by omega) (by omega))).wr (cm_hi hc (by omega) (by omega) (by omega) (by omega) (by omega) (by omega) (by omega) (by omega))).wr (cm_hi hc (by omega) (by omega) (by omega) (by omega) (by omega) (by omega) (by omega) (by omega))).wr (im_u1 hI (by omega))
theorem wSv_eq {r k : Int} (h : Sm0 f g) (hr : 0 ≤ r ∧ r < 3) (hk : 0 ≤ k ∧ k < 10) : wSv f r k = svO g r k := by
  unfold wSv svO
  split
  · exact h.W k hk
  · exact h.V r k hr hk
theorem wVal_eq {n : Int} (h : Sm0 f g) (hn : 0 ≤ n ∧ n ≤ 60) : wVal f n = valO g n := by
  unfold wVal valO
  split
  · rfl
  · exact h.J n 1 (by omega) (by omega)
theorem svO_ud {j x r k : Int} (hI : IM B g) (hr : 0 ≤ r ∧ r < 3) (hj : 13 ≤ j ∧ (j < 36 ∨ 216 ≤ j)) : svO (ud g j x) r k = svO g r k := by
  unfold svO
  have hK : ∀ n, 1 ≤ n ∧ n ≤ 60 → ud g j x (36 + 3 * (n - 1)) = g (36 + 3 * (n - 1)) := fun n u => ud_ne (by omega)
  split
  · rw [lastI_cong hK (by rw [ud_ne (by omega)]; exact (hI.n60 (by omega)).2), ud_ne (by omega)]
  · rw [lastI_cong hK (by rw [ud_ne (by omega)]; exact (hI.n60 (by omega)).2), ud_ne (by omega)]
theorem valO_ud {j x n : Int} (hn : 0 ≤ n ∧ n ≤ 60) (hj : j < 36 ∨ 216 ≤ j) : valO (ud g j x) n = valO g n := by
  unfold valO
  split
  · rfl
  · exact ud_ne (by omega)
theorem wSv_ud {j x r k : Int} (hr : 0 ≤ r ∧ r < 3) (hk : 0 ≤ k ∧ k < 10) (hj : j < 72 ∨ 112 ≤ j) : wSv (ud f j x) r k = wSv f r k := by
  unfold wSv
  split
  · exact ud_ne (by omega)
  · exact ud_ne (by omega)
theorem wVal_ud {j x n : Int} (hn : 0 ≤ n ∧ n ≤ 60) (hj : j < 112 ∨ 292 ≤ j) : wVal (ud f j x) n = wVal f n := by
  unfold wVal
  split
  · rfl
  · have hb := jA_b (n := n) (by omega)
    exact ud_ne (by omega)
theorem valO_b (hI : IM B g) {n : Int} (hn : 0 ≤ n ∧ n ≤ 60) : 0 ≤ valO g n ∧ valO g n ≤ 999 := by
  unfold valO
  split
  · omega
  · exact (hI.jr (n := n) (by omega)).2.1
theorem svO_b2 (hI : IM B g) {r k : Int} (hr : 0 ≤ r ∧ r < 3) : 0 ≤ svO g r k ∧ svO g r k ≤ 60 := svO_b (hI.n60 (by omega)) (hI.n60 (by omega))
theorem im_hi {c i x : Int} (hI : IM B g) (hc : 0 ≤ c ∧ c < 6) (hi : 0 ≤ i ∧ i < 7) (hx : -1 ≤ x ∧ x ≤ B) (h0 : i = 0 → 0 ≤ x ∧ x ≤ 5) (h1 : i = 1 → x ≤ 9) (h2 : i = 2 → 0 ≤ x) (h3 : i = 3 ∨ i = 6 → 0 ≤ x ∧ x ≤ 1) (h4 : i = 4 → 0 ≤ x ∧ x ≤ 999) (h5 : i = 5 → 0 ≤ x ∧ x ≤ 60) : IM B (ud g (hA c + i) x) := hI.wr (cm_hi hc hi hx h0 h1 h2 h3 h4 h5)
theorem sm_lookst {c r : Int} (h0 : Sm0 f g) (hI : IM B g) (hB : 1000 ≤ B) (h8 : f 8 = g 8) (h14 : f 14 = g 20) (hc : 0 ≤ c ∧ c < 6) (hr : 0 ≤ r ∧ r < 3) (hk : 0 ≤ g (hA c + 1) ∧ g (hA c + 1) < 10) :
    wVal (ud f (33 + r) (f (33 + r) + 1)) (wSv (ud f (33 + r) (f (33 + r) + 1)) r (g (hA c + 1))) = valO (ud (ud (ud g (hA c + 3) 1) (13 + r) (g (13 + r) + 1)) (hA c + 5) (svO (ud (ud g (hA c + 3) 1) (13 + r) (g (13 + r) + 1)) r (g (hA c + 1)))) (svO (ud (ud g (hA c + 3) 1) (13 + r) (g (13 + r) + 1)) r (g (hA c + 1))) ∧
    Sm (ud (ud (ud (ud (ud f (33 + r) (f (33 + r) + 1)) (cA c + 3) 1) (cA c + 4) (wVal (ud f (33 + r) (f (33 + r) + 1)) (wSv (ud f (33 + r) (f (33 + r) + 1)) r (g (hA c + 1))))) (cA c + 5) (wSv (ud f (33 + r) (f (33 + r) + 1)) r (g (hA c + 1)))) (cA c + 6) 0)
      (ud (ud (ud (ud (ud g (hA c + 3) 1) (13 + r) (g (13 + r) + 1)) (hA c + 5) (svO (ud (ud g (hA c + 3) 1) (13 + r) (g (13 + r) + 1)) r (g (hA c + 1)))) (hA c + 4) (valO (ud (ud (ud g (hA c + 3) 1) (13 + r) (g (13 + r) + 1)) (hA c + 5) (svO (ud (ud g (hA c + 3) 1) (13 + r) (g (13 + r) + 1)) r (g (hA c + 1)))) (svO (ud (ud g (hA c + 3) 1) (13 + r) (g (13 + r) + 1)) r (g (hA c + 1))))) (hA c + 6) 0) ∧
    IM (B + 100) (ud (ud (ud (ud (ud g (hA c + 3) 1) (13 + r) (g (13 + r) + 1)) (hA c + 5) (svO (ud (ud g (hA c + 3) 1) (13 + r) (g (13 + r) + 1)) r (g (hA c + 1)))) (hA c + 4) (valO (ud (ud (ud g (hA c + 3) 1) (13 + r) (g (13 + r) + 1)) (hA c + 5) (svO (ud (ud g (hA c + 3) 1) (13 + r) (g (13 + r) + 1)) r (g (hA c + 1)))) (svO (ud (ud g (hA c + 3) 1) (13 + r) (g (13 + r) + 1)) r (g (hA c + 1))))) (hA c + 6) 0) := by
  have hb1 := hA_b hc
  have hb2 := cA_b hc
  have hI1 : IM B (ud g (hA c + 3) 1) := hI.wr (cm_hi hc (by omega) (by omega) (by omega) (by omega) (by omega) (by omega) (by omega) (by omega))
  have e1 : svO (ud (ud g (hA c + 3) 1) (13 + r) (g (13 + r) + 1)) r (g (hA c + 1)) = svO g r (g (hA c + 1)) := by rw [svO_ud hI1 hr (by omega), svO_ud hI hr (by omega)]
  have hv := svO_b2 hI (k := g (hA c + 1)) hr
  have e2 : ∀ y, valO (ud (ud (ud g (hA c + 3) 1) (13 + r) (g (13 + r) + 1)) (hA c + 5) y) (svO g r (g (hA c + 1))) = valO g (svO g r (g (hA c + 1))) := fun y => by rw [valO_ud hv (by omega), valO_ud hv (by omega), valO_ud hv (by omega)]
  have e3 : wSv (ud f (33 + r) (f (33 + r) + 1)) r (g (hA c + 1)) = svO g r (g (hA c + 1)) := by rw [wSv_ud hr hk (by omega), wSv_eq h0 hr hk]
  have e4 : wVal (ud f (33 + r) (f (33 + r) + 1)) (svO g r (g (hA c + 1))) = valO g (svO g r (g (hA c + 1))) := by rw [wVal_ud hv (by omega), wVal_eq h0 hv]
  rw [e1, e2, e3, e4]
  have hw := valO_b hI hv
  have n13 := im_u1 hI (j := 13 + r) (by omega)
  generalize valO g (svO g r (g (hA c + 1))) = x at hw ⊢
  generalize svO g r (g (hA c + 1)) = y at hv ⊢
  refine ⟨rfl, ⟨sm_lookS hc hr hk.1 h0 hI, (by simp only [ud]; (repeat rw [if_neg (by omega)]); assumption), (by simp only [ud]; (repeat rw [if_neg (by omega)]); assumption)⟩, ?_⟩
  exact (((((hI.up (show B ≤ B + 100 by omega)).wr (cm_hi hc (by omega) (by omega) (by omega) (by omega) (by omega) (by omega) (by omega) (by omega))).wr n13).wr (cm_hi hc (by omega) (by omega) (by omega) (by omega) (by omega) (by omega) (by omega) (by omega))).wr (cm_hi hc (by omega) (by omega) (by omega) (by omega) (by omega) (by omega) (by omega) (by omega))).wr (cm_hi hc (by omega) (by omega) (by omega) (by omega) (by omega) (by omega) (by omega) (by omega))
theorem sm_look {c : Int} (h : Sm f g) (hI : IM B g) (hB : 1000 ≤ B) (hc : 0 ≤ c ∧ c < 6) : (wLook f c).1 = (spLook g c).1 ∧ Sm (wLook f c).2 (spLook g c).2 ∧ IM (B + 100) (spLook g c).2 := by
  obtain ⟨h0, h8, h14⟩ := h
  have hh := h0.H c hc
  have hcl := hI.cl hc
  have hb1 := hA_b hc
  have hb2 := cA_b hc
  have hU : IM (B + 100) g := hI.up (by omega)
  unfold wLook spLook
  dsimp only
  rcases Decidable.em (g (hA c + 1) = -1) with c0 | c0
  · rw [if_pos (show f (cA c + 7) = 0 by omega), if_pos c0]
    exact ⟨rfl, ⟨h0, h8, h14⟩, hU⟩
  rw [if_neg (show ¬ f (cA c + 7) = 0 by omega), if_neg c0]
  have hk : 0 ≤ g (hA c + 1) ∧ g (hA c + 1) < 10 := ⟨by omega, hcl.2.1.2⟩
  have e0 : f (cA c + 0) = g (hA c + 0) := hh.1
  have e1 : f (cA c + 1) = g (hA c + 1) := by omega
  rw [e0, e1]
  have ha := hcl.1
  have hz := besO_b ha
  have S := h0.S (besO (g (hA c + 0))) (g (hA c + 1)) hz hk
  have A0 := h0.A
  have c1 := h0.C (g (hA c + 0)) ha
  have c2 := h0.C (besO (g (hA c + 0))) hz
  have m0 := h0.M (g (hA c + 0) / 2) (g (hA c + 1)) (by omega) hk
  have en := hI.en hz hk
  have s1 := sm_lookst (r := g (hA c + 0) / 2) h0 hI hB h8 h14 hc (by omega) hk
  have s2 := sm_lookst (r := 0) h0 hI hB h8 h14 hc (by omega) hk
  unfold SmA at A0
  unfold EA at S
  rcases Decidable.em (g (216 + g (hA c + 0)) = 1 ∧ g (216 + besO (g (hA c + 0))) = 0) with c3 | c3
  · rw [if_pos (show f (36 + g (hA c + 0)) = 1 ∧ f (36 + besO (g (hA c + 0))) = 0 by omega)]
    rcases Decidable.em (g 0 < g (eA (besO (g (hA c + 0))) (g (hA c + 1)))) with c4 | c4
    · rw [if_pos (show f 0 < f (sA (besO (g (hA c + 0))) (g (hA c + 1)) + 5) by omega), if_pos (show g (216 + g (hA c + 0)) = 1 ∧ g (216 + besO (g (hA c + 0))) = 0 ∧ g 0 < g (eA (besO (g (hA c + 0))) (g (hA c + 1))) from ⟨c3.1, c3.2, c4⟩), S.1, S.2.1]
      refine ⟨rfl, ⟨sm_lookN hc hk.1 h0 hI, (by simp only [ud]; (repeat rw [if_neg (by omega)]); assumption), (by simp only [ud]; (repeat rw [if_neg (by omega)]); assumption)⟩, ?_⟩
      have v := im_u1 hI (j := 22) (by omega)
      generalize g (eA (besO (g (hA c + 0))) (g (hA c + 1)) + 1) = x at en ⊢
      generalize g (eA (besO (g (hA c + 0))) (g (hA c + 1)) + 2) = y at en ⊢
      exact ((((hU.wr (cm_hi hc (by omega) (by omega) (by omega) (by omega) (by omega) (by omega) (by omega) (by omega))).wr (cm_hi hc (by omega) (by omega) (by omega) (by omega) (by omega) (by omega) (by omega) (by omega))).wr (cm_hi hc (by omega) (by omega) (by omega) (by omega) (by omega) (by omega) (by omega) (by omega))).wr (cm_hi hc (by omega) (by omega) (by omega) (by omega) (by omega) (by omega) (by omega) (by omega))).wr v
    · rw [if_neg (show ¬ f 0 < f (sA (besO (g (hA c + 0))) (g (hA c + 1)) + 5) by omega), if_neg (show ¬ (g (216 + g (hA c + 0)) = 1 ∧ g (216 + besO (g (hA c + 0))) = 0 ∧ g 0 < g (eA (besO (g (hA c + 0))) (g (hA c + 1)))) from fun q => c4 q.2.2)]
      unfold wLook2 frO
      rcases Decidable.em (0 < g (942 + 10 * (g (hA c + 0) / 2) + g (hA c + 1))) with c5 | c5
      · rw [if_neg (show ¬ f (42 + g (hA c + 0) / 2 * 10 + g (hA c + 1)) ≤ 0 by omega), if_pos c5]
        exact s2
      · rw [if_pos (show f (42 + g (hA c + 0) / 2 * 10 + g (hA c + 1)) ≤ 0 by omega), if_neg c5]
        exact s1
  · rw [if_neg (show ¬ (f (36 + g (hA c + 0)) = 1 ∧ f (36 + besO (g (hA c + 0))) = 0) by omega), if_neg (show ¬ (g (216 + g (hA c + 0)) = 1 ∧ g (216 + besO (g (hA c + 0))) = 0 ∧ g 0 < g (eA (besO (g (hA c + 0))) (g (hA c + 1)))) from fun q => c3 ⟨q.1, q.2.1⟩)]
    unfold wLook2 frO
    rcases Decidable.em (0 < g (942 + 10 * (g (hA c + 0) / 2) + g (hA c + 1))) with c5 | c5
    · rw [if_neg (show ¬ f (42 + g (hA c + 0) / 2 * 10 + g (hA c + 1)) ≤ 0 by omega), if_pos c5]
      exact s2
    · rw [if_pos (show f (42 + g (hA c + 0) / 2 * 10 + g (hA c + 1)) ≤ 0 by omega), if_neg c5]
      exact s1
end SK
