/-! both rows after an act, case by case: cold and warm, what comes and gives way -/
section SO
variable {f g : Int → Int} {B : Int}
set_option maxHeartbeats 4000000 in
theorem sm_cset {a v : Int} (ha : 0 ≤ a ∧ a < 6) (h : Sm0 f g) (hI : IM B g) : Sm0 (ud f (36 + a) v) (ud g (216 + a) v) := by
  have hA_ : SmA (ud f (36 + a) v) (ud g (216 + a) v) := by
    have q := h.A
    unfold SmA at q
    refine ⟨?_, ?_, ?_⟩
    · rw [ud_ne (by omega), ud_ne (by omega)] <;> omega
    · rw [ud_ne (by omega), ud_ne (by omega)] <;> omega
    · rw [ud_ne (by omega), ud_ne (by omega)] <;> omega
  have hT_ : SmT (ud f (36 + a) v) (ud g (216 + a) v) := by
    intro i u0
    rw [ud_ne (by omega), ud_ne (by omega)]
    exact h.T i u0
  have hL_ : SmL (ud f (36 + a) v) (ud g (216 + a) v) := by
    intro i u0
    rw [ud_ne (by omega), ud_ne (by omega)]
    exact h.L i u0
  have hE_ : SmE (ud f (36 + a) v) (ud g (216 + a) v) := by
    intro k_ u0
    rw [ud_ne (by omega), ud_ne (by omega)]
    exact h.E k_ u0
  have hP_ : SmP (ud f (36 + a) v) (ud g (216 + a) v) := by
    intro r_ u0
    rw [ud_ne (by omega), ud_ne (by omega)]
    exact h.P r_ u0
  have hO_ : SmO (ud f (36 + a) v) (ud g (216 + a) v) := by
    intro r_ u0
    rw [ud_ne (by omega), ud_ne (by omega)]
    exact h.O r_ u0
  have hC_ : SmC (ud f (36 + a) v) (ud g (216 + a) v) := by
    intro a_ u0
    rcases Decidable.em (a = a_) with e | e
    · subst e
      have q := h.C a u0
      rw [ud_eq, ud_eq] <;> (first | exact q | omega | (simp only [Int.reduceAdd, Int.add_zero] at *; omega))
    · skip
      rw [ud_ne (by omega), ud_ne (by omega)]
      exact h.C a_ u0
  have hM_ : SmM (ud f (36 + a) v) (ud g (216 + a) v) := by
    intro r_ k_ u0 u1
    rw [ud_ne (by omega), ud_ne (by omega)]
    exact h.M r_ k_ u0 u1
  have hJ_ : SmJ (ud f (36 + a) v) (ud g (216 + a) v) := by
    intro n i u0 u1
    have hj := jA_b u0
    rw [ud_ne (by omega), ud_ne (by omega)]
    exact h.J n i u0 u1
  have hK : ∀ n, 1 ≤ n ∧ n ≤ 60 → (ud g (216 + a) v) (36 + 3 * (n - 1)) = g (36 + 3 * (n - 1)) := by
    intro n u0
    rw [ud_ne (by omega)]
  have hV_ : SmV (ud f (36 + a) v) (ud g (216 + a) v) := by
    intro r_ k_ u0 u1
    rw [lastI_cong hK (by rw [ud_ne (by omega)]; exact (hI.n60 (by omega)).2)]
    rw [ud_ne (by omega), ud_ne (by omega)]
    exact h.V r_ k_ u0 u1
  have hW_ : SmW (ud f (36 + a) v) (ud g (216 + a) v) := by
    intro k_ u0
    rw [lastI_cong hK (by rw [ud_ne (by omega)]; exact (hI.n60 (by omega)).2)]
    rw [ud_ne (by omega), ud_ne (by omega)]
    exact h.W k_ u0
  have hH_ : SmH (ud f (36 + a) v) (ud g (216 + a) v) := by
    intro c_ u0
    have q := h.H c_ u0
    have hc1 := cA_b (c := c_) u0
    have hc2 := hA_b (c := c_) u0
    have w1 : (ud f (36 + a) v) (cA c_ + 7) = f (cA c_ + 7) := by rw [ud_ne (by omega)]
    have w2 : (ud f (36 + a) v) (cA c_ + 1) = f (cA c_ + 1) := by rw [ud_ne (by omega)]
    have w3 : (ud f (36 + a) v) (cA c_ + 3) = f (cA c_ + 3) := by rw [ud_ne (by omega)]
    have w4 : (ud g (216 + a) v) (hA c_ + 1) = g (hA c_ + 1) := by rw [ud_ne (by omega)]
    have w5 : (ud g (216 + a) v) (hA c_ + 3) = g (hA c_ + 3) := by rw [ud_ne (by omega)]
    have x0 : (ud f (36 + a) v) (cA c_ + 0) = (ud g (216 + a) v) (hA c_ + 0) := by
      rw [ud_ne (by omega), ud_ne (by omega)] <;> (first | omega | exact q.1)
    have x1 : (ud f (36 + a) v) (cA c_ + 2) = (ud g (216 + a) v) (hA c_ + 2) := by
      rw [ud_ne (by omega), ud_ne (by omega)] <;> (first | omega | exact q.2.1)
    have x2 : (ud f (36 + a) v) (cA c_ + 4) = (ud g (216 + a) v) (hA c_ + 4) := by
      rw [ud_ne (by omega), ud_ne (by omega)] <;> (first | omega | exact q.2.2.1)
    have x3 : (ud f (36 + a) v) (cA c_ + 5) = (ud g (216 + a) v) (hA c_ + 5) := by
      rw [ud_ne (by omega), ud_ne (by omega)] <;> (first | omega | exact q.2.2.2.1)
    have x4 : (ud f (36 + a) v) (cA c_ + 6) = (ud g (216 + a) v) (hA c_ + 6) := by
      rw [ud_ne (by omega), ud_ne (by omega)] <;> (first | omega | exact q.2.2.2.2.1)
    refine ⟨x0, x1, x2, x3, x4, ?_, ?_⟩
    · rw [w2]; omega
    · rw [w1, w2, w3, w4, w5]; omega
  have hS_ : SmS (ud f (36 + a) v) (ud g (216 + a) v) := by
    intro a_ k_ u0 u1
    have q := h.S a_ k_ u0 u1
    have b1 := sA_b u0 u1
    have b2 := eA_b u0 u1
    have b3 := oA_b u0 u1
    have b4 := lA_b u0 u1
    have b5 := dA_b u0 u1
    refine ⟨?_, ?_, ?_, ?_, ?_, ?_, ?_, ?_, ?_, ?_, ?_, ?_⟩
    · rw [ud_ne (by omega), ud_ne (by omega)] <;> (exact q.1)
    · rw [ud_ne (by omega), ud_ne (by omega)] <;> (exact q.2.1)
    · rw [ud_ne (by omega), ud_ne (by omega)] <;> (exact q.2.2.1)
    · rw [ud_ne (by omega), ud_ne (by omega)] <;> (exact q.2.2.2.1)
    · rw [ud_ne (by omega), ud_ne (by omega)] <;> (exact q.2.2.2.2.1)
    · rw [ud_ne (by omega), ud_ne (by omega), ud_ne (by omega)] <;> (exact q.2.2.2.2.2.1)
    · rw [ud_ne (by omega), ud_ne (by omega)] <;> (exact q.2.2.2.2.2.2.1)
    · rw [ud_ne (by omega), ud_ne (by omega), ud_ne (by omega)] <;> (exact q.2.2.2.2.2.2.2.1)
    · rw [ud_ne (by omega), ud_ne (by omega)] <;> (exact q.2.2.2.2.2.2.2.2.1)
    · rw [ud_ne (by omega), ud_ne (by omega)] <;> (exact q.2.2.2.2.2.2.2.2.2.1)
    · rw [ud_ne (by omega), ud_ne (by omega), ud_ne (by omega)] <;> (exact q.2.2.2.2.2.2.2.2.2.2.1)
    · rw [ud_ne (by omega), ud_ne (by omega), ud_ne (by omega)] <;> (exact q.2.2.2.2.2.2.2.2.2.2.2)
  have hZ_ : SmZ (ud f (36 + a) v) := by
    intro j u0
    rw [ud_ne (by omega)]
    exact h.Z j u0
  exact ⟨hA_, hT_, hL_, hE_, hP_, hO_, hC_, hM_, hV_, hW_, hJ_, hH_, hS_, hZ_⟩
set_option maxHeartbeats 4000000 in
theorem sm_warm1 {a k : Int} (ha : 0 ≤ a ∧ a < 6) (hk : 0 ≤ k ∧ k < 10) (h : Sm0 f g) (hI : IM B g) : Sm0 (ud f (sA a k + 11) 0) (ud g (dA a k) 0) := by
  have p1 := sA_b ha hk
  have p2 := eA_b ha hk
  have p3 := oA_b ha hk
  have p4 := lA_b ha hk
  have p5 := dA_b ha hk
  have p6 := h.S a k ha hk
  have p7 := h.A
  unfold SmA at p7
  have n0 := hI.n0 (j := 0) (by omega)
  have hA_ : SmA (ud f (sA a k + 11) 0) (ud g (dA a k) 0) := by
    have q := h.A
    unfold SmA at q
    refine ⟨?_, ?_, ?_⟩
    · rw [ud_ne (by omega), ud_ne (by omega)] <;> omega
    · rw [ud_ne (by omega), ud_ne (by omega)] <;> omega
    · rw [ud_ne (by omega), ud_ne (by omega)] <;> omega
  have hT_ : SmT (ud f (sA a k + 11) 0) (ud g (dA a k) 0) := by
    intro i u0
    rw [ud_ne (by omega), ud_ne (by omega)]
    exact h.T i u0
  have hL_ : SmL (ud f (sA a k + 11) 0) (ud g (dA a k) 0) := by
    intro i u0
    rw [ud_ne (by omega), ud_ne (by omega)]
    exact h.L i u0
  have hE_ : SmE (ud f (sA a k + 11) 0) (ud g (dA a k) 0) := by
    intro k_ u0
    rw [ud_ne (by omega), ud_ne (by omega)]
    exact h.E k_ u0
  have hP_ : SmP (ud f (sA a k + 11) 0) (ud g (dA a k) 0) := by
    intro r_ u0
    rw [ud_ne (by omega), ud_ne (by omega)]
    exact h.P r_ u0
  have hO_ : SmO (ud f (sA a k + 11) 0) (ud g (dA a k) 0) := by
    intro r_ u0
    rw [ud_ne (by omega), ud_ne (by omega)]
    exact h.O r_ u0
  have hC_ : SmC (ud f (sA a k + 11) 0) (ud g (dA a k) 0) := by
    intro a_ u0
    rw [ud_ne (by omega), ud_ne (by omega)]
    exact h.C a_ u0
  have hM_ : SmM (ud f (sA a k + 11) 0) (ud g (dA a k) 0) := by
    intro r_ k_ u0 u1
    rw [ud_ne (by omega), ud_ne (by omega)]
    exact h.M r_ k_ u0 u1
  have hJ_ : SmJ (ud f (sA a k + 11) 0) (ud g (dA a k) 0) := by
    intro n i u0 u1
    have hj := jA_b u0
    rw [ud_ne (by omega), ud_ne (by omega)]
    exact h.J n i u0 u1
  have hK : ∀ n, 1 ≤ n ∧ n ≤ 60 → (ud g (dA a k) 0) (36 + 3 * (n - 1)) = g (36 + 3 * (n - 1)) := by
    intro n u0
    rw [ud_ne (by omega)]
  have hV_ : SmV (ud f (sA a k + 11) 0) (ud g (dA a k) 0) := by
    intro r_ k_ u0 u1
    rw [lastI_cong hK (by rw [ud_ne (by omega)]; exact (hI.n60 (by omega)).2)]
    rw [ud_ne (by omega), ud_ne (by omega)]
    exact h.V r_ k_ u0 u1
  have hW_ : SmW (ud f (sA a k + 11) 0) (ud g (dA a k) 0) := by
    intro k_ u0
    rw [lastI_cong hK (by rw [ud_ne (by omega)]; exact (hI.n60 (by omega)).2)]
    rw [ud_ne (by omega), ud_ne (by omega)]
    exact h.W k_ u0
  have hH_ : SmH (ud f (sA a k + 11) 0) (ud g (dA a k) 0) := by
    intro c_ u0
    have q := h.H c_ u0
    have hc1 := cA_b (c := c_) u0
    have hc2 := hA_b (c := c_) u0
    have w1 : (ud f (sA a k + 11) 0) (cA c_ + 7) = f (cA c_ + 7) := by rw [ud_ne (by omega)]
    have w2 : (ud f (sA a k + 11) 0) (cA c_ + 1) = f (cA c_ + 1) := by rw [ud_ne (by omega)]
    have w3 : (ud f (sA a k + 11) 0) (cA c_ + 3) = f (cA c_ + 3) := by rw [ud_ne (by omega)]
    have w4 : (ud g (dA a k) 0) (hA c_ + 1) = g (hA c_ + 1) := by rw [ud_ne (by omega)]
    have w5 : (ud g (dA a k) 0) (hA c_ + 3) = g (hA c_ + 3) := by rw [ud_ne (by omega)]
    have x0 : (ud f (sA a k + 11) 0) (cA c_ + 0) = (ud g (dA a k) 0) (hA c_ + 0) := by
      rw [ud_ne (by omega), ud_ne (by omega)] <;> (first | omega | exact q.1)
    have x1 : (ud f (sA a k + 11) 0) (cA c_ + 2) = (ud g (dA a k) 0) (hA c_ + 2) := by
      rw [ud_ne (by omega), ud_ne (by omega)] <;> (first | omega | exact q.2.1)
    have x2 : (ud f (sA a k + 11) 0) (cA c_ + 4) = (ud g (dA a k) 0) (hA c_ + 4) := by
      rw [ud_ne (by omega), ud_ne (by omega)] <;> (first | omega | exact q.2.2.1)
    have x3 : (ud f (sA a k + 11) 0) (cA c_ + 5) = (ud g (dA a k) 0) (hA c_ + 5) := by
      rw [ud_ne (by omega), ud_ne (by omega)] <;> (first | omega | exact q.2.2.2.1)
    have x4 : (ud f (sA a k + 11) 0) (cA c_ + 6) = (ud g (dA a k) 0) (hA c_ + 6) := by
      rw [ud_ne (by omega), ud_ne (by omega)] <;> (first | omega | exact q.2.2.2.2.1)
    refine ⟨x0, x1, x2, x3, x4, ?_, ?_⟩
    · rw [w2]; omega
    · rw [w1, w2, w3, w4, w5]; omega
  have hS_ : SmS (ud f (sA a k + 11) 0) (ud g (dA a k) 0) := by
    intro a_ k_ u0 u1
    rcases Decidable.em (a = a_ ∧ k = k_) with e | e
    · obtain ⟨e1, e2⟩ := e
      subst e1
      subst e2
      have q := h.S a k u0 u1
      have b1 := sA_b u0 u1
      have b2 := eA_b u0 u1
      have b3 := oA_b u0 u1
      have b4 := lA_b u0 u1
      have b5 := dA_b u0 u1
      refine ⟨?_, ?_, ?_, ?_, ?_, ?_, ?_, ?_, ?_, ?_, ?_, ?_⟩
      · rw [ud_ne (by omega), ud_ne (by omega)] <;> (first | exact q.1 | omega)
      · rw [ud_ne (by omega), ud_ne (by omega)] <;> (first | exact q.2.1 | omega)
      · rw [ud_ne (by omega), ud_ne (by omega)] <;> (first | exact q.2.2.1 | omega)
      · rw [ud_ne (by omega), ud_ne (by omega)] <;> (first | exact q.2.2.2.1 | omega)
      · rw [ud_ne (by omega), ud_ne (by omega)] <;> (first | exact q.2.2.2.2.1 | omega)
      · rw [ud_ne (by omega), ud_ne (by omega), ud_ne (by omega)] <;> (first | exact q.2.2.2.2.2.1 | (unfold EA at *; omega))
      · rw [ud_ne (by omega), ud_ne (by omega)] <;> (first | exact q.2.2.2.2.2.2.1 | omega)
      · rw [ud_ne (by omega), ud_ne (by omega), ud_ne (by omega)] <;> (first | exact q.2.2.2.2.2.2.2.1 | (unfold EA at *; omega))
      · rw [ud_ne (by omega), ud_ne (by omega)] <;> (first | exact q.2.2.2.2.2.2.2.2.1 | omega)
      · rw [ud_ne (by omega), ud_ne (by omega)] <;> (first | exact q.2.2.2.2.2.2.2.2.2.1 | omega)
      · rw [ud_ne (by omega), ud_ne (by omega), ud_ne (by omega)] <;> (first | exact q.2.2.2.2.2.2.2.2.2.2.1 | (unfold EA at *; omega))
      · rw [ud_ne (by omega), ud_eq, ud_eq] <;> (first | exact q.2.2.2.2.2.2.2.2.2.2.2 | (unfold EA at *; omega))
    · have d1 : sA a_ k_ + 12 ≤ sA a k ∨ sA a k + 12 ≤ sA a_ k_ := by unfold sA; omega
      have d2 : eA a_ k_ + 6 ≤ eA a k ∨ eA a k + 6 ≤ eA a_ k_ := by unfold eA; omega
      have d3 : oA a_ k_ + 2 ≤ oA a k ∨ oA a k + 2 ≤ oA a_ k_ := by unfold oA; omega
      have d4 : lA a_ k_ + 3 ≤ lA a k ∨ lA a k + 3 ≤ lA a_ k_ := by unfold lA; omega
      have d5 : dA a_ k_ + 1 ≤ dA a k ∨ dA a k + 1 ≤ dA a_ k_ := by unfold dA; omega
      have q := h.S a_ k_ u0 u1
      have b1 := sA_b u0 u1
      have b2 := eA_b u0 u1
      have b3 := oA_b u0 u1
      have b4 := lA_b u0 u1
      have b5 := dA_b u0 u1
      refine ⟨?_, ?_, ?_, ?_, ?_, ?_, ?_, ?_, ?_, ?_, ?_, ?_⟩
      · rw [ud_ne (by omega), ud_ne (by omega)] <;> (exact q.1)
      · rw [ud_ne (by omega), ud_ne (by omega)] <;> (exact q.2.1)
      · rw [ud_ne (by omega), ud_ne (by omega)] <;> (exact q.2.2.1)
      · rw [ud_ne (by omega), ud_ne (by omega)] <;> (exact q.2.2.2.1)
      · rw [ud_ne (by omega), ud_ne (by omega)] <;> (exact q.2.2.2.2.1)
      · rw [ud_ne (by omega), ud_ne (by omega), ud_ne (by omega)] <;> (exact q.2.2.2.2.2.1)
      · rw [ud_ne (by omega), ud_ne (by omega)] <;> (exact q.2.2.2.2.2.2.1)
      · rw [ud_ne (by omega), ud_ne (by omega), ud_ne (by omega)] <;> (exact q.2.2.2.2.2.2.2.1)
      · rw [ud_ne (by omega), ud_ne (by omega)] <;> (exact q.2.2.2.2.2.2.2.2.1)
      · rw [ud_ne (by omega), ud_ne (by omega)] <;> (exact q.2.2.2.2.2.2.2.2.2.1)
      · rw [ud_ne (by omega), ud_ne (by omega), ud_ne (by omega)] <;> (exact q.2.2.2.2.2.2.2.2.2.2.1)
      · rw [ud_ne (by omega), ud_ne (by omega), ud_ne (by omega)] <;> (exact q.2.2.2.2.2.2.2.2.2.2.2)
  have hZ_ : SmZ (ud f (sA a k + 11) 0) := by
    intro j u0
    rw [ud_ne (by omega)]
    exact h.Z j u0
  exact ⟨hA_, hT_, hL_, hE_, hP_, hO_, hC_, hM_, hV_, hW_, hJ_, hH_, hS_, hZ_⟩
set_option maxHeartbeats 4000000 in
theorem sm_cold1 {a k : Int} (ha : 0 ≤ a ∧ a < 6) (hk : 0 ≤ k ∧ k < 10) (h : Sm0 f g) (hI : IM B g) : Sm0 (ud (ud (ud (ud f (sA a k + 11) 0) (sA a k + 5) 0) (sA a k + 7) 0) (sA a k + 10) 0) (ud (ud (ud (ud g (dA a k) 0) (eA a k) 0) (oA a k) 0) (lA a k) 0) := by
  have p1 := sA_b ha hk
  have p2 := eA_b ha hk
  have p3 := oA_b ha hk
  have p4 := lA_b ha hk
  have p5 := dA_b ha hk
  have p6 := h.S a k ha hk
  have p7 := h.A
  unfold SmA at p7
  have n0 := hI.n0 (j := 0) (by omega)
  have hA_ : SmA (ud (ud (ud (ud f (sA a k + 11) 0) (sA a k + 5) 0) (sA a k + 7) 0) (sA a k + 10) 0) (ud (ud (ud (ud g (dA a k) 0) (eA a k) 0) (oA a k) 0) (lA a k) 0) := by
    have q := h.A
    unfold SmA at q
    refine ⟨?_, ?_, ?_⟩
    · rw [ud_ne (by omega), ud_ne (by omega), ud_ne (by omega), ud_ne (by omega), ud_ne (by omega), ud_ne (by omega), ud_ne (by omega), ud_ne (by omega)] <;> omega
    · rw [ud_ne (by omega), ud_ne (by omega), ud_ne (by omega), ud_ne (by omega), ud_ne (by omega), ud_ne (by omega), ud_ne (by omega), ud_ne (by omega)] <;> omega
    · rw [ud_ne (by omega), ud_ne (by omega), ud_ne (by omega), ud_ne (by omega), ud_ne (by omega), ud_ne (by omega), ud_ne (by omega), ud_ne (by omega)] <;> omega
  have hT_ : SmT (ud (ud (ud (ud f (sA a k + 11) 0) (sA a k + 5) 0) (sA a k + 7) 0) (sA a k + 10) 0) (ud (ud (ud (ud g (dA a k) 0) (eA a k) 0) (oA a k) 0) (lA a k) 0) := by
    intro i u0
    rw [ud_ne (by omega), ud_ne (by omega), ud_ne (by omega), ud_ne (by omega), ud_ne (by omega), ud_ne (by omega), ud_ne (by omega), ud_ne (by omega)]
    exact h.T i u0
  have hL_ : SmL (ud (ud (ud (ud f (sA a k + 11) 0) (sA a k + 5) 0) (sA a k + 7) 0) (sA a k + 10) 0) (ud (ud (ud (ud g (dA a k) 0) (eA a k) 0) (oA a k) 0) (lA a k) 0) := by
    intro i u0
    rw [ud_ne (by omega), ud_ne (by omega), ud_ne (by omega), ud_ne (by omega), ud_ne (by omega), ud_ne (by omega), ud_ne (by omega), ud_ne (by omega)]
    exact h.L i u0
  have hE_ : SmE (ud (ud (ud (ud f (sA a k + 11) 0) (sA a k + 5) 0) (sA a k + 7) 0) (sA a k + 10) 0) (ud (ud (ud (ud g (dA a k) 0) (eA a k) 0) (oA a k) 0) (lA a k) 0) := by
    intro k_ u0
    rw [ud_ne (by omega), ud_ne (by omega), ud_ne (by omega), ud_ne (by omega), ud_ne (by omega), ud_ne (by omega), ud_ne (by omega), ud_ne (by omega)]
    exact h.E k_ u0
  have hP_ : SmP (ud (ud (ud (ud f (sA a k + 11) 0) (sA a k + 5) 0) (sA a k + 7) 0) (sA a k + 10) 0) (ud (ud (ud (ud g (dA a k) 0) (eA a k) 0) (oA a k) 0) (lA a k) 0) := by
    intro r_ u0
    rw [ud_ne (by omega), ud_ne (by omega), ud_ne (by omega), ud_ne (by omega), ud_ne (by omega), ud_ne (by omega), ud_ne (by omega), ud_ne (by omega)]
    exact h.P r_ u0
  have hO_ : SmO (ud (ud (ud (ud f (sA a k + 11) 0) (sA a k + 5) 0) (sA a k + 7) 0) (sA a k + 10) 0) (ud (ud (ud (ud g (dA a k) 0) (eA a k) 0) (oA a k) 0) (lA a k) 0) := by
    intro r_ u0
    rw [ud_ne (by omega), ud_ne (by omega), ud_ne (by omega), ud_ne (by omega), ud_ne (by omega), ud_ne (by omega), ud_ne (by omega), ud_ne (by omega)]
    exact h.O r_ u0
  have hC_ : SmC (ud (ud (ud (ud f (sA a k + 11) 0) (sA a k + 5) 0) (sA a k + 7) 0) (sA a k + 10) 0) (ud (ud (ud (ud g (dA a k) 0) (eA a k) 0) (oA a k) 0) (lA a k) 0) := by
    intro a_ u0
    rw [ud_ne (by omega), ud_ne (by omega), ud_ne (by omega), ud_ne (by omega), ud_ne (by omega), ud_ne (by omega), ud_ne (by omega), ud_ne (by omega)]
    exact h.C a_ u0
  have hM_ : SmM (ud (ud (ud (ud f (sA a k + 11) 0) (sA a k + 5) 0) (sA a k + 7) 0) (sA a k + 10) 0) (ud (ud (ud (ud g (dA a k) 0) (eA a k) 0) (oA a k) 0) (lA a k) 0) := by
    intro r_ k_ u0 u1
    rw [ud_ne (by omega), ud_ne (by omega), ud_ne (by omega), ud_ne (by omega), ud_ne (by omega), ud_ne (by omega), ud_ne (by omega), ud_ne (by omega)]
    exact h.M r_ k_ u0 u1
  have hJ_ : SmJ (ud (ud (ud (ud f (sA a k + 11) 0) (sA a k + 5) 0) (sA a k + 7) 0) (sA a k + 10) 0) (ud (ud (ud (ud g (dA a k) 0) (eA a k) 0) (oA a k) 0) (lA a k) 0) := by
    intro n i u0 u1
    have hj := jA_b u0
    rw [ud_ne (by omega), ud_ne (by omega), ud_ne (by omega), ud_ne (by omega), ud_ne (by omega), ud_ne (by omega), ud_ne (by omega), ud_ne (by omega)]
    exact h.J n i u0 u1
  have hK : ∀ n, 1 ≤ n ∧ n ≤ 60 → (ud (ud (ud (ud g (dA a k) 0) (eA a k) 0) (oA a k) 0) (lA a k) 0) (36 + 3 * (n - 1)) = g (36 + 3 * (n - 1)) := by
    intro n u0
    rw [ud_ne (by omega), ud_ne (by omega), ud_ne (by omega), ud_ne (by omega)]
  have hV_ : SmV (ud (ud (ud (ud f (sA a k + 11) 0) (sA a k + 5) 0) (sA a k + 7) 0) (sA a k + 10) 0) (ud (ud (ud (ud g (dA a k) 0) (eA a k) 0) (oA a k) 0) (lA a k) 0) := by
    intro r_ k_ u0 u1
    rw [lastI_cong hK (by rw [ud_ne (by omega), ud_ne (by omega), ud_ne (by omega), ud_ne (by omega)]; exact (hI.n60 (by omega)).2)]
    rw [ud_ne (by omega), ud_ne (by omega), ud_ne (by omega), ud_ne (by omega), ud_ne (by omega), ud_ne (by omega), ud_ne (by omega), ud_ne (by omega)]
    exact h.V r_ k_ u0 u1
  have hW_ : SmW (ud (ud (ud (ud f (sA a k + 11) 0) (sA a k + 5) 0) (sA a k + 7) 0) (sA a k + 10) 0) (ud (ud (ud (ud g (dA a k) 0) (eA a k) 0) (oA a k) 0) (lA a k) 0) := by
    intro k_ u0
    rw [lastI_cong hK (by rw [ud_ne (by omega), ud_ne (by omega), ud_ne (by omega), ud_ne (by omega)]; exact (hI.n60 (by omega)).2)]
    rw [ud_ne (by omega), ud_ne (by omega), ud_ne (by omega), ud_ne (by omega), ud_ne (by omega), ud_ne (by omega), ud_ne (by omega), ud_ne (by omega)]
    exact h.W k_ u0
  have hH_ : SmH (ud (ud (ud (ud f (sA a k + 11) 0) (sA a k + 5) 0) (sA a k + 7) 0) (sA a k + 10) 0) (ud (ud (ud (ud g (dA a k) 0) (eA a k) 0) (oA a k) 0) (lA a k) 0) := by
    intro c_ u0
    have q := h.H c_ u0
    have hc1 := cA_b (c := c_) u0
    have hc2 := hA_b (c := c_) u0
    have w1 : (ud (ud (ud (ud f (sA a k + 11) 0) (sA a k + 5) 0) (sA a k + 7) 0) (sA a k + 10) 0) (cA c_ + 7) = f (cA c_ + 7) := by rw [ud_ne (by omega), ud_ne (by omega), ud_ne (by omega), ud_ne (by omega)]
    have w2 : (ud (ud (ud (ud f (sA a k + 11) 0) (sA a k + 5) 0) (sA a k + 7) 0) (sA a k + 10) 0) (cA c_ + 1) = f (cA c_ + 1) := by rw [ud_ne (by omega), ud_ne (by omega), ud_ne (by omega), ud_ne (by omega)]
    have w3 : (ud (ud (ud (ud f (sA a k + 11) 0) (sA a k + 5) 0) (sA a k + 7) 0) (sA a k + 10) 0) (cA c_ + 3) = f (cA c_ + 3) := by rw [ud_ne (by omega), ud_ne (by omega), ud_ne (by omega), ud_ne (by omega)]
    have w4 : (ud (ud (ud (ud g (dA a k) 0) (eA a k) 0) (oA a k) 0) (lA a k) 0) (hA c_ + 1) = g (hA c_ + 1) := by rw [ud_ne (by omega), ud_ne (by omega), ud_ne (by omega), ud_ne (by omega)]
    have w5 : (ud (ud (ud (ud g (dA a k) 0) (eA a k) 0) (oA a k) 0) (lA a k) 0) (hA c_ + 3) = g (hA c_ + 3) := by rw [ud_ne (by omega), ud_ne (by omega), ud_ne (by omega), ud_ne (by omega)]
    have x0 : (ud (ud (ud (ud f (sA a k + 11) 0) (sA a k + 5) 0) (sA a k + 7) 0) (sA a k + 10) 0) (cA c_ + 0) = (ud (ud (ud (ud g (dA a k) 0) (eA a k) 0) (oA a k) 0) (lA a k) 0) (hA c_ + 0) := by
      rw [ud_ne (by omega), ud_ne (by omega), ud_ne (by omega), ud_ne (by omega), ud_ne (by omega), ud_ne (by omega), ud_ne (by omega), ud_ne (by omega)] <;> (first | omega | exact q.1)
    have x1 : (ud (ud (ud (ud f (sA a k + 11) 0) (sA a k + 5) 0) (sA a k + 7) 0) (sA a k + 10) 0) (cA c_ + 2) = (ud (ud (ud (ud g (dA a k) 0) (eA a k) 0) (oA a k) 0) (lA a k) 0) (hA c_ + 2) := by
      rw [ud_ne (by omega), ud_ne (by omega), ud_ne (by omega), ud_ne (by omega), ud_ne (by omega), ud_ne (by omega), ud_ne (by omega), ud_ne (by omega)] <;> (first | omega | exact q.2.1)
    have x2 : (ud (ud (ud (ud f (sA a k + 11) 0) (sA a k + 5) 0) (sA a k + 7) 0) (sA a k + 10) 0) (cA c_ + 4) = (ud (ud (ud (ud g (dA a k) 0) (eA a k) 0) (oA a k) 0) (lA a k) 0) (hA c_ + 4) := by
      rw [ud_ne (by omega), ud_ne (by omega), ud_ne (by omega), ud_ne (by omega), ud_ne (by omega), ud_ne (by omega), ud_ne (by omega), ud_ne (by omega)] <;> (first | omega | exact q.2.2.1)
    have x3 : (ud (ud (ud (ud f (sA a k + 11) 0) (sA a k + 5) 0) (sA a k + 7) 0) (sA a k + 10) 0) (cA c_ + 5) = (ud (ud (ud (ud g (dA a k) 0) (eA a k) 0) (oA a k) 0) (lA a k) 0) (hA c_ + 5) := by
      rw [ud_ne (by omega), ud_ne (by omega), ud_ne (by omega), ud_ne (by omega), ud_ne (by omega), ud_ne (by omega), ud_ne (by omega), ud_ne (by omega)] <;> (first | omega | exact q.2.2.2.1)
    have x4 : (ud (ud (ud (ud f (sA a k + 11) 0) (sA a k + 5) 0) (sA a k + 7) 0) (sA a k + 10) 0) (cA c_ + 6) = (ud (ud (ud (ud g (dA a k) 0) (eA a k) 0) (oA a k) 0) (lA a k) 0) (hA c_ + 6) := by
      rw [ud_ne (by omega), ud_ne (by omega), ud_ne (by omega), ud_ne (by omega), ud_ne (by omega), ud_ne (by omega), ud_ne (by omega), ud_ne (by omega)] <;> (first | omega | exact q.2.2.2.2.1)
    refine ⟨x0, x1, x2, x3, x4, ?_, ?_⟩
    · rw [w2]; omega
    · rw [w1, w2, w3, w4, w5]; omega
  have hS_ : SmS (ud (ud (ud (ud f (sA a k + 11) 0) (sA a k + 5) 0) (sA a k + 7) 0) (sA a k + 10) 0) (ud (ud (ud (ud g (dA a k) 0) (eA a k) 0) (oA a k) 0) (lA a k) 0) := by
    intro a_ k_ u0 u1
    rcases Decidable.em (a = a_ ∧ k = k_) with e | e
    · obtain ⟨e1, e2⟩ := e
      subst e1
      subst e2
      have q := h.S a k u0 u1
      have b1 := sA_b u0 u1
      have b2 := eA_b u0 u1
      have b3 := oA_b u0 u1
      have b4 := lA_b u0 u1
      have b5 := dA_b u0 u1
      refine ⟨?_, ?_, ?_, ?_, ?_, ?_, ?_, ?_, ?_, ?_, ?_, ?_⟩
      · rw [ud_ne (by omega), ud_ne (by omega), ud_ne (by omega), ud_ne (by omega), ud_ne (by omega), ud_ne (by omega), ud_ne (by omega), ud_ne (by omega)] <;> (first | exact q.1 | omega)
      · rw [ud_ne (by omega), ud_ne (by omega), ud_ne (by omega), ud_ne (by omega), ud_ne (by omega), ud_ne (by omega), ud_ne (by omega), ud_ne (by omega)] <;> (first | exact q.2.1 | omega)
      · rw [ud_ne (by omega), ud_ne (by omega), ud_ne (by omega), ud_ne (by omega), ud_ne (by omega), ud_ne (by omega), ud_ne (by omega), ud_ne (by omega)] <;> (first | exact q.2.2.1 | omega)
      · rw [ud_ne (by omega), ud_ne (by omega), ud_ne (by omega), ud_ne (by omega), ud_ne (by omega), ud_ne (by omega), ud_ne (by omega), ud_ne (by omega)] <;> (first | exact q.2.2.2.1 | omega)
      · rw [ud_ne (by omega), ud_ne (by omega), ud_ne (by omega), ud_ne (by omega), ud_ne (by omega), ud_ne (by omega), ud_ne (by omega), ud_ne (by omega)] <;> (first | exact q.2.2.2.2.1 | omega)
      · rw [ud_ne (by omega), ud_ne (by omega), ud_ne (by omega), ud_ne (by omega), ud_ne (by omega), ud_ne (by omega), ud_eq, ud_ne (by omega), ud_ne (by omega), ud_eq] <;> (first | exact q.2.2.2.2.2.1 | (unfold EA at *; omega))
      · rw [ud_ne (by omega), ud_ne (by omega), ud_ne (by omega), ud_ne (by omega), ud_ne (by omega), ud_ne (by omega), ud_ne (by omega), ud_ne (by omega)] <;> (first | exact q.2.2.2.2.2.2.1 | omega)
      · rw [ud_ne (by omega), ud_ne (by omega), ud_ne (by omega), ud_ne (by omega), ud_ne (by omega), ud_eq, ud_ne (by omega), ud_eq] <;> (first | exact q.2.2.2.2.2.2.2.1 | (unfold EA at *; omega))
      · rw [ud_ne (by omega), ud_ne (by omega), ud_ne (by omega), ud_ne (by omega), ud_ne (by omega), ud_ne (by omega), ud_ne (by omega), ud_ne (by omega)] <;> (first | exact q.2.2.2.2.2.2.2.2.1 | omega)
      · rw [ud_ne (by omega), ud_ne (by omega), ud_ne (by omega), ud_ne (by omega), ud_ne (by omega), ud_ne (by omega), ud_ne (by omega), ud_ne (by omega)] <;> (first | exact q.2.2.2.2.2.2.2.2.2.1 | omega)
      · rw [ud_ne (by omega), ud_ne (by omega), ud_ne (by omega), ud_ne (by omega), ud_eq, ud_eq] <;> (first | exact q.2.2.2.2.2.2.2.2.2.2.1 | (unfold EA at *; omega))
      · rw [ud_ne (by omega), ud_ne (by omega), ud_ne (by omega), ud_ne (by omega), ud_ne (by omega), ud_ne (by omega), ud_ne (by omega), ud_eq, ud_ne (by omega), ud_ne (by omega), ud_ne (by omega), ud_eq] <;> (first | exact q.2.2.2.2.2.2.2.2.2.2.2 | (unfold EA at *; omega))
    · have d1 : sA a_ k_ + 12 ≤ sA a k ∨ sA a k + 12 ≤ sA a_ k_ := by unfold sA; omega
      have d2 : eA a_ k_ + 6 ≤ eA a k ∨ eA a k + 6 ≤ eA a_ k_ := by unfold eA; omega
      have d3 : oA a_ k_ + 2 ≤ oA a k ∨ oA a k + 2 ≤ oA a_ k_ := by unfold oA; omega
      have d4 : lA a_ k_ + 3 ≤ lA a k ∨ lA a k + 3 ≤ lA a_ k_ := by unfold lA; omega
      have d5 : dA a_ k_ + 1 ≤ dA a k ∨ dA a k + 1 ≤ dA a_ k_ := by unfold dA; omega
      have q := h.S a_ k_ u0 u1
      have b1 := sA_b u0 u1
      have b2 := eA_b u0 u1
      have b3 := oA_b u0 u1
      have b4 := lA_b u0 u1
      have b5 := dA_b u0 u1
      refine ⟨?_, ?_, ?_, ?_, ?_, ?_, ?_, ?_, ?_, ?_, ?_, ?_⟩
      · rw [ud_ne (by omega), ud_ne (by omega), ud_ne (by omega), ud_ne (by omega), ud_ne (by omega), ud_ne (by omega), ud_ne (by omega), ud_ne (by omega)] <;> (exact q.1)
      · rw [ud_ne (by omega), ud_ne (by omega), ud_ne (by omega), ud_ne (by omega), ud_ne (by omega), ud_ne (by omega), ud_ne (by omega), ud_ne (by omega)] <;> (exact q.2.1)
      · rw [ud_ne (by omega), ud_ne (by omega), ud_ne (by omega), ud_ne (by omega), ud_ne (by omega), ud_ne (by omega), ud_ne (by omega), ud_ne (by omega)] <;> (exact q.2.2.1)
      · rw [ud_ne (by omega), ud_ne (by omega), ud_ne (by omega), ud_ne (by omega), ud_ne (by omega), ud_ne (by omega), ud_ne (by omega), ud_ne (by omega)] <;> (exact q.2.2.2.1)
      · rw [ud_ne (by omega), ud_ne (by omega), ud_ne (by omega), ud_ne (by omega), ud_ne (by omega), ud_ne (by omega), ud_ne (by omega), ud_ne (by omega)] <;> (exact q.2.2.2.2.1)
      · rw [ud_ne (by omega), ud_ne (by omega), ud_ne (by omega), ud_ne (by omega), ud_ne (by omega), ud_ne (by omega), ud_ne (by omega), ud_ne (by omega), ud_ne (by omega), ud_ne (by omega), ud_ne (by omega), ud_ne (by omega)] <;> (exact q.2.2.2.2.2.1)
      · rw [ud_ne (by omega), ud_ne (by omega), ud_ne (by omega), ud_ne (by omega), ud_ne (by omega), ud_ne (by omega), ud_ne (by omega), ud_ne (by omega)] <;> (exact q.2.2.2.2.2.2.1)
      · rw [ud_ne (by omega), ud_ne (by omega), ud_ne (by omega), ud_ne (by omega), ud_ne (by omega), ud_ne (by omega), ud_ne (by omega), ud_ne (by omega), ud_ne (by omega), ud_ne (by omega), ud_ne (by omega), ud_ne (by omega)] <;> (exact q.2.2.2.2.2.2.2.1)
      · rw [ud_ne (by omega), ud_ne (by omega), ud_ne (by omega), ud_ne (by omega), ud_ne (by omega), ud_ne (by omega), ud_ne (by omega), ud_ne (by omega)] <;> (exact q.2.2.2.2.2.2.2.2.1)
      · rw [ud_ne (by omega), ud_ne (by omega), ud_ne (by omega), ud_ne (by omega), ud_ne (by omega), ud_ne (by omega), ud_ne (by omega), ud_ne (by omega)] <;> (exact q.2.2.2.2.2.2.2.2.2.1)
      · rw [ud_ne (by omega), ud_ne (by omega), ud_ne (by omega), ud_ne (by omega), ud_ne (by omega), ud_ne (by omega), ud_ne (by omega), ud_ne (by omega), ud_ne (by omega), ud_ne (by omega), ud_ne (by omega), ud_ne (by omega)] <;> (exact q.2.2.2.2.2.2.2.2.2.2.1)
      · rw [ud_ne (by omega), ud_ne (by omega), ud_ne (by omega), ud_ne (by omega), ud_ne (by omega), ud_ne (by omega), ud_ne (by omega), ud_ne (by omega), ud_ne (by omega), ud_ne (by omega), ud_ne (by omega), ud_ne (by omega)] <;> (exact q.2.2.2.2.2.2.2.2.2.2.2)
  have hZ_ : SmZ (ud (ud (ud (ud f (sA a k + 11) 0) (sA a k + 5) 0) (sA a k + 7) 0) (sA a k + 10) 0) := by
    intro j u0
    rw [ud_ne (by omega), ud_ne (by omega), ud_ne (by omega), ud_ne (by omega)]
    exact h.Z j u0
  exact ⟨hA_, hT_, hL_, hE_, hP_, hO_, hC_, hM_, hV_, hW_, hJ_, hH_, hS_, hZ_⟩
set_option maxHeartbeats 4000000 in
theorem sm_gives {a k : Int} (ha : 0 ≤ a ∧ a < 6) (hk : 0 ≤ k ∧ k < 10) (h : Sm0 f g) (hI : IM B g) : Sm0 (ud (ud f (sA a k + 5) 0) 17 (f 17 + 1)) (ud (ud g (eA a k) 0) 23 (g 23 + 1)) := by
  have p1 := sA_b ha hk
  have p2 := eA_b ha hk
  have p3 := oA_b ha hk
  have p4 := lA_b ha hk
  have p5 := dA_b ha hk
  have p6 := h.S a k ha hk
  have p7 := h.A
  unfold SmA at p7
  have n0 := hI.n0 (j := 0) (by omega)
  have l7 : f 17 = g 23 := h.L 7 (by omega)
  have hA_ : SmA (ud (ud f (sA a k + 5) 0) 17 (f 17 + 1)) (ud (ud g (eA a k) 0) 23 (g 23 + 1)) := by
    have q := h.A
    unfold SmA at q
    refine ⟨?_, ?_, ?_⟩
    · rw [ud_ne (by omega), ud_ne (by omega), ud_ne (by omega), ud_ne (by omega)] <;> omega
    · rw [ud_ne (by omega), ud_ne (by omega), ud_ne (by omega), ud_ne (by omega)] <;> omega
    · rw [ud_ne (by omega), ud_ne (by omega), ud_ne (by omega), ud_ne (by omega)] <;> omega
  have hT_ : SmT (ud (ud f (sA a k + 5) 0) 17 (f 17 + 1)) (ud (ud g (eA a k) 0) 23 (g 23 + 1)) := by
    intro i u0
    rw [ud_ne (by omega), ud_ne (by omega), ud_ne (by omega), ud_ne (by omega)]
    exact h.T i u0
  have hL_ : SmL (ud (ud f (sA a k + 5) 0) 17 (f 17 + 1)) (ud (ud g (eA a k) 0) 23 (g 23 + 1)) := by
    intro i u0
    rcases Decidable.em (7 = i) with e | e
    · subst e
      have q := h.L 7 u0
      rw [ud_at (by omega), ud_at (by omega)] <;> (first | exact q | omega | (simp only [Int.reduceAdd, Int.add_zero] at *; omega))
    · skip
      rw [ud_ne (by omega), ud_ne (by omega), ud_ne (by omega), ud_ne (by omega)]
      exact h.L i u0
  have hE_ : SmE (ud (ud f (sA a k + 5) 0) 17 (f 17 + 1)) (ud (ud g (eA a k) 0) 23 (g 23 + 1)) := by
    intro k_ u0
    rw [ud_ne (by omega), ud_ne (by omega), ud_ne (by omega), ud_ne (by omega)]
    exact h.E k_ u0
  have hP_ : SmP (ud (ud f (sA a k + 5) 0) 17 (f 17 + 1)) (ud (ud g (eA a k) 0) 23 (g 23 + 1)) := by
    intro r_ u0
    rw [ud_ne (by omega), ud_ne (by omega), ud_ne (by omega), ud_ne (by omega)]
    exact h.P r_ u0
  have hO_ : SmO (ud (ud f (sA a k + 5) 0) 17 (f 17 + 1)) (ud (ud g (eA a k) 0) 23 (g 23 + 1)) := by
    intro r_ u0
    rw [ud_ne (by omega), ud_ne (by omega), ud_ne (by omega), ud_ne (by omega)]
    exact h.O r_ u0
  have hC_ : SmC (ud (ud f (sA a k + 5) 0) 17 (f 17 + 1)) (ud (ud g (eA a k) 0) 23 (g 23 + 1)) := by
    intro a_ u0
    rw [ud_ne (by omega), ud_ne (by omega), ud_ne (by omega), ud_ne (by omega)]
    exact h.C a_ u0
  have hM_ : SmM (ud (ud f (sA a k + 5) 0) 17 (f 17 + 1)) (ud (ud g (eA a k) 0) 23 (g 23 + 1)) := by
    intro r_ k_ u0 u1
    rw [ud_ne (by omega), ud_ne (by omega), ud_ne (by omega), ud_ne (by omega)]
    exact h.M r_ k_ u0 u1
  have hJ_ : SmJ (ud (ud f (sA a k + 5) 0) 17 (f 17 + 1)) (ud (ud g (eA a k) 0) 23 (g 23 + 1)) := by
    intro n i u0 u1
    have hj := jA_b u0
    rw [ud_ne (by omega), ud_ne (by omega), ud_ne (by omega), ud_ne (by omega)]
    exact h.J n i u0 u1
  have hK : ∀ n, 1 ≤ n ∧ n ≤ 60 → (ud (ud g (eA a k) 0) 23 (g 23 + 1)) (36 + 3 * (n - 1)) = g (36 + 3 * (n - 1)) := by
    intro n u0
    rw [ud_ne (by omega), ud_ne (by omega)]
  have hV_ : SmV (ud (ud f (sA a k + 5) 0) 17 (f 17 + 1)) (ud (ud g (eA a k) 0) 23 (g 23 + 1)) := by
    intro r_ k_ u0 u1
    rw [lastI_cong hK (by rw [ud_ne (by omega), ud_ne (by omega)]; exact (hI.n60 (by omega)).2)]
    rw [ud_ne (by omega), ud_ne (by omega), ud_ne (by omega), ud_ne (by omega)]
    exact h.V r_ k_ u0 u1
  have hW_ : SmW (ud (ud f (sA a k + 5) 0) 17 (f 17 + 1)) (ud (ud g (eA a k) 0) 23 (g 23 + 1)) := by
    intro k_ u0
    rw [lastI_cong hK (by rw [ud_ne (by omega), ud_ne (by omega)]; exact (hI.n60 (by omega)).2)]
    rw [ud_ne (by omega), ud_ne (by omega), ud_ne (by omega), ud_ne (by omega)]
    exact h.W k_ u0
  have hH_ : SmH (ud (ud f (sA a k + 5) 0) 17 (f 17 + 1)) (ud (ud g (eA a k) 0) 23 (g 23 + 1)) := by
    intro c_ u0
    have q := h.H c_ u0
    have hc1 := cA_b (c := c_) u0
    have hc2 := hA_b (c := c_) u0
    have w1 : (ud (ud f (sA a k + 5) 0) 17 (f 17 + 1)) (cA c_ + 7) = f (cA c_ + 7) := by rw [ud_ne (by omega), ud_ne (by omega)]
    have w2 : (ud (ud f (sA a k + 5) 0) 17 (f 17 + 1)) (cA c_ + 1) = f (cA c_ + 1) := by rw [ud_ne (by omega), ud_ne (by omega)]
    have w3 : (ud (ud f (sA a k + 5) 0) 17 (f 17 + 1)) (cA c_ + 3) = f (cA c_ + 3) := by rw [ud_ne (by omega), ud_ne (by omega)]
    have w4 : (ud (ud g (eA a k) 0) 23 (g 23 + 1)) (hA c_ + 1) = g (hA c_ + 1) := by rw [ud_ne (by omega), ud_ne (by omega)]
    have w5 : (ud (ud g (eA a k) 0) 23 (g 23 + 1)) (hA c_ + 3) = g (hA c_ + 3) := by rw [ud_ne (by omega), ud_ne (by omega)]
    have x0 : (ud (ud f (sA a k + 5) 0) 17 (f 17 + 1)) (cA c_ + 0) = (ud (ud g (eA a k) 0) 23 (g 23 + 1)) (hA c_ + 0) := by
      rw [ud_ne (by omega), ud_ne (by omega), ud_ne (by omega), ud_ne (by omega)] <;> (first | omega | exact q.1)
    have x1 : (ud (ud f (sA a k + 5) 0) 17 (f 17 + 1)) (cA c_ + 2) = (ud (ud g (eA a k) 0) 23 (g 23 + 1)) (hA c_ + 2) := by
      rw [ud_ne (by omega), ud_ne (by omega), ud_ne (by omega), ud_ne (by omega)] <;> (first | omega | exact q.2.1)
    have x2 : (ud (ud f (sA a k + 5) 0) 17 (f 17 + 1)) (cA c_ + 4) = (ud (ud g (eA a k) 0) 23 (g 23 + 1)) (hA c_ + 4) := by
      rw [ud_ne (by omega), ud_ne (by omega), ud_ne (by omega), ud_ne (by omega)] <;> (first | omega | exact q.2.2.1)
    have x3 : (ud (ud f (sA a k + 5) 0) 17 (f 17 + 1)) (cA c_ + 5) = (ud (ud g (eA a k) 0) 23 (g 23 + 1)) (hA c_ + 5) := by
      rw [ud_ne (by omega), ud_ne (by omega), ud_ne (by omega), ud_ne (by omega)] <;> (first | omega | exact q.2.2.2.1)
    have x4 : (ud (ud f (sA a k + 5) 0) 17 (f 17 + 1)) (cA c_ + 6) = (ud (ud g (eA a k) 0) 23 (g 23 + 1)) (hA c_ + 6) := by
      rw [ud_ne (by omega), ud_ne (by omega), ud_ne (by omega), ud_ne (by omega)] <;> (first | omega | exact q.2.2.2.2.1)
    refine ⟨x0, x1, x2, x3, x4, ?_, ?_⟩
    · rw [w2]; omega
    · rw [w1, w2, w3, w4, w5]; omega
  have hS_ : SmS (ud (ud f (sA a k + 5) 0) 17 (f 17 + 1)) (ud (ud g (eA a k) 0) 23 (g 23 + 1)) := by
    intro a_ k_ u0 u1
    rcases Decidable.em (a = a_ ∧ k = k_) with e | e
    · obtain ⟨e1, e2⟩ := e
      subst e1
      subst e2
      have q := h.S a k u0 u1
      have b1 := sA_b u0 u1
      have b2 := eA_b u0 u1
      have b3 := oA_b u0 u1
      have b4 := lA_b u0 u1
      have b5 := dA_b u0 u1
      refine ⟨?_, ?_, ?_, ?_, ?_, ?_, ?_, ?_, ?_, ?_, ?_, ?_⟩
      · rw [ud_ne (by omega), ud_ne (by omega), ud_ne (by omega), ud_ne (by omega)] <;> (first | exact q.1 | omega)
      · rw [ud_ne (by omega), ud_ne (by omega), ud_ne (by omega), ud_ne (by omega)] <;> (first | exact q.2.1 | omega)
      · rw [ud_ne (by omega), ud_ne (by omega), ud_ne (by omega), ud_ne (by omega)] <;> (first | exact q.2.2.1 | omega)
      · rw [ud_ne (by omega), ud_ne (by omega), ud_ne (by omega), ud_ne (by omega)] <;> (first | exact q.2.2.2.1 | omega)
      · rw [ud_ne (by omega), ud_ne (by omega), ud_ne (by omega), ud_ne (by omega)] <;> (first | exact q.2.2.2.2.1 | omega)
      · rw [ud_ne (by omega), ud_ne (by omega), ud_ne (by omega), ud_eq, ud_ne (by omega), ud_eq] <;> (first | exact q.2.2.2.2.2.1 | (unfold EA at *; omega))
      · rw [ud_ne (by omega), ud_ne (by omega), ud_ne (by omega), ud_ne (by omega)] <;> (first | exact q.2.2.2.2.2.2.1 | omega)
      · rw [ud_ne (by omega), ud_ne (by omega), ud_ne (by omega), ud_ne (by omega), ud_ne (by omega), ud_ne (by omega)] <;> (first | exact q.2.2.2.2.2.2.2.1 | (unfold EA at *; omega))
      · rw [ud_ne (by omega), ud_ne (by omega), ud_ne (by omega), ud_ne (by omega)] <;> (first | exact q.2.2.2.2.2.2.2.2.1 | omega)
      · rw [ud_ne (by omega), ud_ne (by omega), ud_ne (by omega), ud_ne (by omega)] <;> (first | exact q.2.2.2.2.2.2.2.2.2.1 | omega)
      · rw [ud_ne (by omega), ud_ne (by omega), ud_ne (by omega), ud_ne (by omega), ud_ne (by omega), ud_ne (by omega)] <;> (first | exact q.2.2.2.2.2.2.2.2.2.2.1 | (unfold EA at *; omega))
      · rw [ud_ne (by omega), ud_ne (by omega), ud_ne (by omega), ud_ne (by omega), ud_ne (by omega), ud_ne (by omega)] <;> (first | exact q.2.2.2.2.2.2.2.2.2.2.2 | (unfold EA at *; omega))
    · have d1 : sA a_ k_ + 12 ≤ sA a k ∨ sA a k + 12 ≤ sA a_ k_ := by unfold sA; omega
      have d2 : eA a_ k_ + 6 ≤ eA a k ∨ eA a k + 6 ≤ eA a_ k_ := by unfold eA; omega
      have d3 : oA a_ k_ + 2 ≤ oA a k ∨ oA a k + 2 ≤ oA a_ k_ := by unfold oA; omega
      have d4 : lA a_ k_ + 3 ≤ lA a k ∨ lA a k + 3 ≤ lA a_ k_ := by unfold lA; omega
      have d5 : dA a_ k_ + 1 ≤ dA a k ∨ dA a k + 1 ≤ dA a_ k_ := by unfold dA; omega
      have q := h.S a_ k_ u0 u1
      have b1 := sA_b u0 u1
      have b2 := eA_b u0 u1
      have b3 := oA_b u0 u1
      have b4 := lA_b u0 u1
      have b5 := dA_b u0 u1
      refine ⟨?_, ?_, ?_, ?_, ?_, ?_, ?_, ?_, ?_, ?_, ?_, ?_⟩
      · rw [ud_ne (by omega), ud_ne (by omega), ud_ne (by omega), ud_ne (by omega)] <;> (exact q.1)
      · rw [ud_ne (by omega), ud_ne (by omega), ud_ne (by omega), ud_ne (by omega)] <;> (exact q.2.1)
      · rw [ud_ne (by omega), ud_ne (by omega), ud_ne (by omega), ud_ne (by omega)] <;> (exact q.2.2.1)
      · rw [ud_ne (by omega), ud_ne (by omega), ud_ne (by omega), ud_ne (by omega)] <;> (exact q.2.2.2.1)
      · rw [ud_ne (by omega), ud_ne (by omega), ud_ne (by omega), ud_ne (by omega)] <;> (exact q.2.2.2.2.1)
      · rw [ud_ne (by omega), ud_ne (by omega), ud_ne (by omega), ud_ne (by omega), ud_ne (by omega), ud_ne (by omega)] <;> (exact q.2.2.2.2.2.1)
      · rw [ud_ne (by omega), ud_ne (by omega), ud_ne (by omega), ud_ne (by omega)] <;> (exact q.2.2.2.2.2.2.1)
      · rw [ud_ne (by omega), ud_ne (by omega), ud_ne (by omega), ud_ne (by omega), ud_ne (by omega), ud_ne (by omega)] <;> (exact q.2.2.2.2.2.2.2.1)
      · rw [ud_ne (by omega), ud_ne (by omega), ud_ne (by omega), ud_ne (by omega)] <;> (exact q.2.2.2.2.2.2.2.2.1)
      · rw [ud_ne (by omega), ud_ne (by omega), ud_ne (by omega), ud_ne (by omega)] <;> (exact q.2.2.2.2.2.2.2.2.2.1)
      · rw [ud_ne (by omega), ud_ne (by omega), ud_ne (by omega), ud_ne (by omega), ud_ne (by omega), ud_ne (by omega)] <;> (exact q.2.2.2.2.2.2.2.2.2.2.1)
      · rw [ud_ne (by omega), ud_ne (by omega), ud_ne (by omega), ud_ne (by omega), ud_ne (by omega), ud_ne (by omega)] <;> (exact q.2.2.2.2.2.2.2.2.2.2.2)
  have hZ_ : SmZ (ud (ud f (sA a k + 5) 0) 17 (f 17 + 1)) := by
    intro j u0
    rw [ud_ne (by omega), ud_ne (by omega)]
    exact h.Z j u0
  exact ⟨hA_, hT_, hL_, hE_, hP_, hO_, hC_, hM_, hV_, hW_, hJ_, hH_, hS_, hZ_⟩
set_option maxHeartbeats 4000000 in
theorem sm_ins0 {a k : Int} (ha : 0 ≤ a ∧ a < 6) (hk : 0 ≤ k ∧ k < 10) (h : Sm0 f g) (hI : IM B g) : Sm0 (ud (ud (ud f (sA a k + 10) 0) (sA a k + 7) 0) (sA a k + 5) 0) (ud (ud (ud g (lA a k) 0) (oA a k) 0) (eA a k) 0) := by
  have p1 := sA_b ha hk
  have p2 := eA_b ha hk
  have p3 := oA_b ha hk
  have p4 := lA_b ha hk
  have p5 := dA_b ha hk
  have p6 := h.S a k ha hk
  have p7 := h.A
  unfold SmA at p7
  have n0 := hI.n0 (j := 0) (by omega)
  have hA_ : SmA (ud (ud (ud f (sA a k + 10) 0) (sA a k + 7) 0) (sA a k + 5) 0) (ud (ud (ud g (lA a k) 0) (oA a k) 0) (eA a k) 0) := by
    have q := h.A
    unfold SmA at q
    refine ⟨?_, ?_, ?_⟩
    · rw [ud_ne (by omega), ud_ne (by omega), ud_ne (by omega), ud_ne (by omega), ud_ne (by omega), ud_ne (by omega)] <;> omega
    · rw [ud_ne (by omega), ud_ne (by omega), ud_ne (by omega), ud_ne (by omega), ud_ne (by omega), ud_ne (by omega)] <;> omega
    · rw [ud_ne (by omega), ud_ne (by omega), ud_ne (by omega), ud_ne (by omega), ud_ne (by omega), ud_ne (by omega)] <;> omega
  have hT_ : SmT (ud (ud (ud f (sA a k + 10) 0) (sA a k + 7) 0) (sA a k + 5) 0) (ud (ud (ud g (lA a k) 0) (oA a k) 0) (eA a k) 0) := by
    intro i u0
    rw [ud_ne (by omega), ud_ne (by omega), ud_ne (by omega), ud_ne (by omega), ud_ne (by omega), ud_ne (by omega)]
    exact h.T i u0
  have hL_ : SmL (ud (ud (ud f (sA a k + 10) 0) (sA a k + 7) 0) (sA a k + 5) 0) (ud (ud (ud g (lA a k) 0) (oA a k) 0) (eA a k) 0) := by
    intro i u0
    rw [ud_ne (by omega), ud_ne (by omega), ud_ne (by omega), ud_ne (by omega), ud_ne (by omega), ud_ne (by omega)]
    exact h.L i u0
  have hE_ : SmE (ud (ud (ud f (sA a k + 10) 0) (sA a k + 7) 0) (sA a k + 5) 0) (ud (ud (ud g (lA a k) 0) (oA a k) 0) (eA a k) 0) := by
    intro k_ u0
    rw [ud_ne (by omega), ud_ne (by omega), ud_ne (by omega), ud_ne (by omega), ud_ne (by omega), ud_ne (by omega)]
    exact h.E k_ u0
  have hP_ : SmP (ud (ud (ud f (sA a k + 10) 0) (sA a k + 7) 0) (sA a k + 5) 0) (ud (ud (ud g (lA a k) 0) (oA a k) 0) (eA a k) 0) := by
    intro r_ u0
    rw [ud_ne (by omega), ud_ne (by omega), ud_ne (by omega), ud_ne (by omega), ud_ne (by omega), ud_ne (by omega)]
    exact h.P r_ u0
  have hO_ : SmO (ud (ud (ud f (sA a k + 10) 0) (sA a k + 7) 0) (sA a k + 5) 0) (ud (ud (ud g (lA a k) 0) (oA a k) 0) (eA a k) 0) := by
    intro r_ u0
    rw [ud_ne (by omega), ud_ne (by omega), ud_ne (by omega), ud_ne (by omega), ud_ne (by omega), ud_ne (by omega)]
    exact h.O r_ u0
  have hC_ : SmC (ud (ud (ud f (sA a k + 10) 0) (sA a k + 7) 0) (sA a k + 5) 0) (ud (ud (ud g (lA a k) 0) (oA a k) 0) (eA a k) 0) := by
    intro a_ u0
    rw [ud_ne (by omega), ud_ne (by omega), ud_ne (by omega), ud_ne (by omega), ud_ne (by omega), ud_ne (by omega)]
    exact h.C a_ u0
  have hM_ : SmM (ud (ud (ud f (sA a k + 10) 0) (sA a k + 7) 0) (sA a k + 5) 0) (ud (ud (ud g (lA a k) 0) (oA a k) 0) (eA a k) 0) := by
    intro r_ k_ u0 u1
    rw [ud_ne (by omega), ud_ne (by omega), ud_ne (by omega), ud_ne (by omega), ud_ne (by omega), ud_ne (by omega)]
    exact h.M r_ k_ u0 u1
  have hJ_ : SmJ (ud (ud (ud f (sA a k + 10) 0) (sA a k + 7) 0) (sA a k + 5) 0) (ud (ud (ud g (lA a k) 0) (oA a k) 0) (eA a k) 0) := by
    intro n i u0 u1
    have hj := jA_b u0
    rw [ud_ne (by omega), ud_ne (by omega), ud_ne (by omega), ud_ne (by omega), ud_ne (by omega), ud_ne (by omega)]
    exact h.J n i u0 u1
  have hK : ∀ n, 1 ≤ n ∧ n ≤ 60 → (ud (ud (ud g (lA a k) 0) (oA a k) 0) (eA a k) 0) (36 + 3 * (n - 1)) = g (36 + 3 * (n - 1)) := by
    intro n u0
    rw [ud_ne (by omega), ud_ne (by omega), ud_ne (by omega)]
  have hV_ : SmV (ud (ud (ud f (sA a k + 10) 0) (sA a k + 7) 0) (sA a k + 5) 0) (ud (ud (ud g (lA a k) 0) (oA a k) 0) (eA a k) 0) := by
    intro r_ k_ u0 u1
    rw [lastI_cong hK (by rw [ud_ne (by omega), ud_ne (by omega), ud_ne (by omega)]; exact (hI.n60 (by omega)).2)]
    rw [ud_ne (by omega), ud_ne (by omega), ud_ne (by omega), ud_ne (by omega), ud_ne (by omega), ud_ne (by omega)]
    exact h.V r_ k_ u0 u1
  have hW_ : SmW (ud (ud (ud f (sA a k + 10) 0) (sA a k + 7) 0) (sA a k + 5) 0) (ud (ud (ud g (lA a k) 0) (oA a k) 0) (eA a k) 0) := by
    intro k_ u0
    rw [lastI_cong hK (by rw [ud_ne (by omega), ud_ne (by omega), ud_ne (by omega)]; exact (hI.n60 (by omega)).2)]
    rw [ud_ne (by omega), ud_ne (by omega), ud_ne (by omega), ud_ne (by omega), ud_ne (by omega), ud_ne (by omega)]
    exact h.W k_ u0
  have hH_ : SmH (ud (ud (ud f (sA a k + 10) 0) (sA a k + 7) 0) (sA a k + 5) 0) (ud (ud (ud g (lA a k) 0) (oA a k) 0) (eA a k) 0) := by
    intro c_ u0
    have q := h.H c_ u0
    have hc1 := cA_b (c := c_) u0
    have hc2 := hA_b (c := c_) u0
    have w1 : (ud (ud (ud f (sA a k + 10) 0) (sA a k + 7) 0) (sA a k + 5) 0) (cA c_ + 7) = f (cA c_ + 7) := by rw [ud_ne (by omega), ud_ne (by omega), ud_ne (by omega)]
    have w2 : (ud (ud (ud f (sA a k + 10) 0) (sA a k + 7) 0) (sA a k + 5) 0) (cA c_ + 1) = f (cA c_ + 1) := by rw [ud_ne (by omega), ud_ne (by omega), ud_ne (by omega)]
    have w3 : (ud (ud (ud f (sA a k + 10) 0) (sA a k + 7) 0) (sA a k + 5) 0) (cA c_ + 3) = f (cA c_ + 3) := by rw [ud_ne (by omega), ud_ne (by omega), ud_ne (by omega)]
    have w4 : (ud (ud (ud g (lA a k) 0) (oA a k) 0) (eA a k) 0) (hA c_ + 1) = g (hA c_ + 1) := by rw [ud_ne (by omega), ud_ne (by omega), ud_ne (by omega)]
    have w5 : (ud (ud (ud g (lA a k) 0) (oA a k) 0) (eA a k) 0) (hA c_ + 3) = g (hA c_ + 3) := by rw [ud_ne (by omega), ud_ne (by omega), ud_ne (by omega)]
    have x0 : (ud (ud (ud f (sA a k + 10) 0) (sA a k + 7) 0) (sA a k + 5) 0) (cA c_ + 0) = (ud (ud (ud g (lA a k) 0) (oA a k) 0) (eA a k) 0) (hA c_ + 0) := by
      rw [ud_ne (by omega), ud_ne (by omega), ud_ne (by omega), ud_ne (by omega), ud_ne (by omega), ud_ne (by omega)] <;> (first | omega | exact q.1)
    have x1 : (ud (ud (ud f (sA a k + 10) 0) (sA a k + 7) 0) (sA a k + 5) 0) (cA c_ + 2) = (ud (ud (ud g (lA a k) 0) (oA a k) 0) (eA a k) 0) (hA c_ + 2) := by
      rw [ud_ne (by omega), ud_ne (by omega), ud_ne (by omega), ud_ne (by omega), ud_ne (by omega), ud_ne (by omega)] <;> (first | omega | exact q.2.1)
    have x2 : (ud (ud (ud f (sA a k + 10) 0) (sA a k + 7) 0) (sA a k + 5) 0) (cA c_ + 4) = (ud (ud (ud g (lA a k) 0) (oA a k) 0) (eA a k) 0) (hA c_ + 4) := by
      rw [ud_ne (by omega), ud_ne (by omega), ud_ne (by omega), ud_ne (by omega), ud_ne (by omega), ud_ne (by omega)] <;> (first | omega | exact q.2.2.1)
    have x3 : (ud (ud (ud f (sA a k + 10) 0) (sA a k + 7) 0) (sA a k + 5) 0) (cA c_ + 5) = (ud (ud (ud g (lA a k) 0) (oA a k) 0) (eA a k) 0) (hA c_ + 5) := by
      rw [ud_ne (by omega), ud_ne (by omega), ud_ne (by omega), ud_ne (by omega), ud_ne (by omega), ud_ne (by omega)] <;> (first | omega | exact q.2.2.2.1)
    have x4 : (ud (ud (ud f (sA a k + 10) 0) (sA a k + 7) 0) (sA a k + 5) 0) (cA c_ + 6) = (ud (ud (ud g (lA a k) 0) (oA a k) 0) (eA a k) 0) (hA c_ + 6) := by
      rw [ud_ne (by omega), ud_ne (by omega), ud_ne (by omega), ud_ne (by omega), ud_ne (by omega), ud_ne (by omega)] <;> (first | omega | exact q.2.2.2.2.1)
    refine ⟨x0, x1, x2, x3, x4, ?_, ?_⟩
    · rw [w2]; omega
    · rw [w1, w2, w3, w4, w5]; omega
  have hS_ : SmS (ud (ud (ud f (sA a k + 10) 0) (sA a k + 7) 0) (sA a k + 5) 0) (ud (ud (ud g (lA a k) 0) (oA a k) 0) (eA a k) 0) := by
    intro a_ k_ u0 u1
    rcases Decidable.em (a = a_ ∧ k = k_) with e | e
    · obtain ⟨e1, e2⟩ := e
      subst e1
      subst e2
      have q := h.S a k u0 u1
      have b1 := sA_b u0 u1
      have b2 := eA_b u0 u1
      have b3 := oA_b u0 u1
      have b4 := lA_b u0 u1
      have b5 := dA_b u0 u1
      refine ⟨?_, ?_, ?_, ?_, ?_, ?_, ?_, ?_, ?_, ?_, ?_, ?_⟩
      · rw [ud_ne (by omega), ud_ne (by omega), ud_ne (by omega), ud_ne (by omega), ud_ne (by omega), ud_ne (by omega)] <;> (first | exact q.1 | omega)
      · rw [ud_ne (by omega), ud_ne (by omega), ud_ne (by omega), ud_ne (by omega), ud_ne (by omega), ud_ne (by omega)] <;> (first | exact q.2.1 | omega)
      · rw [ud_ne (by omega), ud_ne (by omega), ud_ne (by omega), ud_ne (by omega), ud_ne (by omega), ud_ne (by omega)] <;> (first | exact q.2.2.1 | omega)
      · rw [ud_ne (by omega), ud_ne (by omega), ud_ne (by omega), ud_ne (by omega), ud_ne (by omega), ud_ne (by omega)] <;> (first | exact q.2.2.2.1 | omega)
      · rw [ud_ne (by omega), ud_ne (by omega), ud_ne (by omega), ud_ne (by omega), ud_ne (by omega), ud_ne (by omega)] <;> (first | exact q.2.2.2.2.1 | omega)
      · rw [ud_ne (by omega), ud_ne (by omega), ud_ne (by omega), ud_eq, ud_eq] <;> (first | exact q.2.2.2.2.2.1 | (unfold EA at *; omega))
      · rw [ud_ne (by omega), ud_ne (by omega), ud_ne (by omega), ud_ne (by omega), ud_ne (by omega), ud_ne (by omega)] <;> (first | exact q.2.2.2.2.2.2.1 | omega)
      · rw [ud_ne (by omega), ud_ne (by omega), ud_ne (by omega), ud_ne (by omega), ud_eq, ud_ne (by omega), ud_eq] <;> (first | exact q.2.2.2.2.2.2.2.1 | (unfold EA at *; omega))
      · rw [ud_ne (by omega), ud_ne (by omega), ud_ne (by omega), ud_ne (by omega), ud_ne (by omega), ud_ne (by omega)] <;> (first | exact q.2.2.2.2.2.2.2.2.1 | omega)
      · rw [ud_ne (by omega), ud_ne (by omega), ud_ne (by omega), ud_ne (by omega), ud_ne (by omega), ud_ne (by omega)] <;> (first | exact q.2.2.2.2.2.2.2.2.2.1 | omega)
      · rw [ud_ne (by omega), ud_ne (by omega), ud_ne (by omega), ud_ne (by omega), ud_ne (by omega), ud_eq, ud_ne (by omega), ud_ne (by omega), ud_eq] <;> (first | exact q.2.2.2.2.2.2.2.2.2.2.1 | (unfold EA at *; omega))
      · rw [ud_ne (by omega), ud_ne (by omega), ud_ne (by omega), ud_ne (by omega), ud_ne (by omega), ud_ne (by omega), ud_ne (by omega), ud_ne (by omega), ud_ne (by omega)] <;> (first | exact q.2.2.2.2.2.2.2.2.2.2.2 | (unfold EA at *; omega))
    · have d1 : sA a_ k_ + 12 ≤ sA a k ∨ sA a k + 12 ≤ sA a_ k_ := by unfold sA; omega
      have d2 : eA a_ k_ + 6 ≤ eA a k ∨ eA a k + 6 ≤ eA a_ k_ := by unfold eA; omega
      have d3 : oA a_ k_ + 2 ≤ oA a k ∨ oA a k + 2 ≤ oA a_ k_ := by unfold oA; omega
      have d4 : lA a_ k_ + 3 ≤ lA a k ∨ lA a k + 3 ≤ lA a_ k_ := by unfold lA; omega
      have d5 : dA a_ k_ + 1 ≤ dA a k ∨ dA a k + 1 ≤ dA a_ k_ := by unfold dA; omega
      have q := h.S a_ k_ u0 u1
      have b1 := sA_b u0 u1
      have b2 := eA_b u0 u1
      have b3 := oA_b u0 u1
      have b4 := lA_b u0 u1
      have b5 := dA_b u0 u1
      refine ⟨?_, ?_, ?_, ?_, ?_, ?_, ?_, ?_, ?_, ?_, ?_, ?_⟩
      · rw [ud_ne (by omega), ud_ne (by omega), ud_ne (by omega), ud_ne (by omega), ud_ne (by omega), ud_ne (by omega)] <;> (exact q.1)
      · rw [ud_ne (by omega), ud_ne (by omega), ud_ne (by omega), ud_ne (by omega), ud_ne (by omega), ud_ne (by omega)] <;> (exact q.2.1)
      · rw [ud_ne (by omega), ud_ne (by omega), ud_ne (by omega), ud_ne (by omega), ud_ne (by omega), ud_ne (by omega)] <;> (exact q.2.2.1)
      · rw [ud_ne (by omega), ud_ne (by omega), ud_ne (by omega), ud_ne (by omega), ud_ne (by omega), ud_ne (by omega)] <;> (exact q.2.2.2.1)
      · rw [ud_ne (by omega), ud_ne (by omega), ud_ne (by omega), ud_ne (by omega), ud_ne (by omega), ud_ne (by omega)] <;> (exact q.2.2.2.2.1)
      · rw [ud_ne (by omega), ud_ne (by omega), ud_ne (by omega), ud_ne (by omega), ud_ne (by omega), ud_ne (by omega), ud_ne (by omega), ud_ne (by omega), ud_ne (by omega)] <;> (exact q.2.2.2.2.2.1)
      · rw [ud_ne (by omega), ud_ne (by omega), ud_ne (by omega), ud_ne (by omega), ud_ne (by omega), ud_ne (by omega)] <;> (exact q.2.2.2.2.2.2.1)
      · rw [ud_ne (by omega), ud_ne (by omega), ud_ne (by omega), ud_ne (by omega), ud_ne (by omega), ud_ne (by omega), ud_ne (by omega), ud_ne (by omega), ud_ne (by omega)] <;> (exact q.2.2.2.2.2.2.2.1)
      · rw [ud_ne (by omega), ud_ne (by omega), ud_ne (by omega), ud_ne (by omega), ud_ne (by omega), ud_ne (by omega)] <;> (exact q.2.2.2.2.2.2.2.2.1)
      · rw [ud_ne (by omega), ud_ne (by omega), ud_ne (by omega), ud_ne (by omega), ud_ne (by omega), ud_ne (by omega)] <;> (exact q.2.2.2.2.2.2.2.2.2.1)
      · rw [ud_ne (by omega), ud_ne (by omega), ud_ne (by omega), ud_ne (by omega), ud_ne (by omega), ud_ne (by omega), ud_ne (by omega), ud_ne (by omega), ud_ne (by omega)] <;> (exact q.2.2.2.2.2.2.2.2.2.2.1)
      · rw [ud_ne (by omega), ud_ne (by omega), ud_ne (by omega), ud_ne (by omega), ud_ne (by omega), ud_ne (by omega), ud_ne (by omega), ud_ne (by omega), ud_ne (by omega)] <;> (exact q.2.2.2.2.2.2.2.2.2.2.2)
  have hZ_ : SmZ (ud (ud (ud f (sA a k + 10) 0) (sA a k + 7) 0) (sA a k + 5) 0) := by
    intro j u0
    rw [ud_ne (by omega), ud_ne (by omega), ud_ne (by omega)]
    exact h.Z j u0
  exact ⟨hA_, hT_, hL_, hE_, hP_, hO_, hC_, hM_, hV_, hW_, hJ_, hH_, hS_, hZ_⟩
set_option maxHeartbeats 4000000 in
theorem sm_fin {a k : Int} (ha : 0 ≤ a ∧ a < 6) (hk : 0 ≤ k ∧ k < 10) {v y : Int} (h : Sm0 f g) (hI : IM B g) : Sm0 (ud (ud (ud (ud (ud (ud (ud f (sA a k + 0) v) (sA a k + 1) y) (sA a k + 2) (f 0)) (sA a k + 3) (f 0)) (sA a k + 4) 0) (sA a k + 5) (f 0 + f 4)) 14 (f 14 + 1)) (ud (ud (ud (ud (ud (ud g (eA a k) (g 0 + g 4)) (eA a k + 1) v) (eA a k + 2) y) (eA a k + 3) (g 0)) (eA a k + 4) (g 0)) (eA a k + 5) 0) := by
  have p1 := sA_b ha hk
  have p2 := eA_b ha hk
  have p3 := oA_b ha hk
  have p4 := lA_b ha hk
  have p5 := dA_b ha hk
  have p6 := h.S a k ha hk
  have p7 := h.A
  unfold SmA at p7
  have n0 := hI.n0 (j := 0) (by omega)
  have t1 : f 4 = g 4 := h.T 1 (by omega)
  have hA_ : SmA (ud (ud (ud (ud (ud (ud (ud f (sA a k + 0) v) (sA a k + 1) y) (sA a k + 2) (f 0)) (sA a k + 3) (f 0)) (sA a k + 4) 0) (sA a k + 5) (f 0 + f 4)) 14 (f 14 + 1)) (ud (ud (ud (ud (ud (ud g (eA a k) (g 0 + g 4)) (eA a k + 1) v) (eA a k + 2) y) (eA a k + 3) (g 0)) (eA a k + 4) (g 0)) (eA a k + 5) 0) := by
    have q := h.A
    unfold SmA at q
    refine ⟨?_, ?_, ?_⟩
    · rw [ud_ne (by omega), ud_ne (by omega), ud_ne (by omega), ud_ne (by omega), ud_ne (by omega), ud_ne (by omega), ud_ne (by omega), ud_ne (by omega), ud_ne (by omega), ud_ne (by omega), ud_ne (by omega), ud_ne (by omega), ud_ne (by omega)] <;> omega
    · rw [ud_ne (by omega), ud_ne (by omega), ud_ne (by omega), ud_ne (by omega), ud_ne (by omega), ud_ne (by omega), ud_ne (by omega), ud_ne (by omega), ud_ne (by omega), ud_ne (by omega), ud_ne (by omega), ud_ne (by omega), ud_ne (by omega)] <;> omega
    · rw [ud_ne (by omega), ud_ne (by omega), ud_ne (by omega), ud_ne (by omega), ud_ne (by omega), ud_ne (by omega), ud_ne (by omega), ud_ne (by omega), ud_ne (by omega), ud_ne (by omega), ud_ne (by omega), ud_ne (by omega), ud_ne (by omega)] <;> omega
  have hT_ : SmT (ud (ud (ud (ud (ud (ud (ud f (sA a k + 0) v) (sA a k + 1) y) (sA a k + 2) (f 0)) (sA a k + 3) (f 0)) (sA a k + 4) 0) (sA a k + 5) (f 0 + f 4)) 14 (f 14 + 1)) (ud (ud (ud (ud (ud (ud g (eA a k) (g 0 + g 4)) (eA a k + 1) v) (eA a k + 2) y) (eA a k + 3) (g 0)) (eA a k + 4) (g 0)) (eA a k + 5) 0) := by
    intro i u0
    rw [ud_ne (by omega), ud_ne (by omega), ud_ne (by omega), ud_ne (by omega), ud_ne (by omega), ud_ne (by omega), ud_ne (by omega), ud_ne (by omega), ud_ne (by omega), ud_ne (by omega), ud_ne (by omega), ud_ne (by omega), ud_ne (by omega)]
    exact h.T i u0
  have hL_ : SmL (ud (ud (ud (ud (ud (ud (ud f (sA a k + 0) v) (sA a k + 1) y) (sA a k + 2) (f 0)) (sA a k + 3) (f 0)) (sA a k + 4) 0) (sA a k + 5) (f 0 + f 4)) 14 (f 14 + 1)) (ud (ud (ud (ud (ud (ud g (eA a k) (g 0 + g 4)) (eA a k + 1) v) (eA a k + 2) y) (eA a k + 3) (g 0)) (eA a k + 4) (g 0)) (eA a k + 5) 0) := by
    intro i u0
    rw [ud_ne (by omega), ud_ne (by omega), ud_ne (by omega), ud_ne (by omega), ud_ne (by omega), ud_ne (by omega), ud_ne (by omega), ud_ne (by omega), ud_ne (by omega), ud_ne (by omega), ud_ne (by omega), ud_ne (by omega), ud_ne (by omega)]
    exact h.L i u0
  have hE_ : SmE (ud (ud (ud (ud (ud (ud (ud f (sA a k + 0) v) (sA a k + 1) y) (sA a k + 2) (f 0)) (sA a k + 3) (f 0)) (sA a k + 4) 0) (sA a k + 5) (f 0 + f 4)) 14 (f 14 + 1)) (ud (ud (ud (ud (ud (ud g (eA a k) (g 0 + g 4)) (eA a k + 1) v) (eA a k + 2) y) (eA a k + 3) (g 0)) (eA a k + 4) (g 0)) (eA a k + 5) 0) := by
    intro k_ u0
    rw [ud_ne (by omega), ud_ne (by omega), ud_ne (by omega), ud_ne (by omega), ud_ne (by omega), ud_ne (by omega), ud_ne (by omega), ud_ne (by omega), ud_ne (by omega), ud_ne (by omega), ud_ne (by omega), ud_ne (by omega), ud_ne (by omega)]
    exact h.E k_ u0
  have hP_ : SmP (ud (ud (ud (ud (ud (ud (ud f (sA a k + 0) v) (sA a k + 1) y) (sA a k + 2) (f 0)) (sA a k + 3) (f 0)) (sA a k + 4) 0) (sA a k + 5) (f 0 + f 4)) 14 (f 14 + 1)) (ud (ud (ud (ud (ud (ud g (eA a k) (g 0 + g 4)) (eA a k + 1) v) (eA a k + 2) y) (eA a k + 3) (g 0)) (eA a k + 4) (g 0)) (eA a k + 5) 0) := by
    intro r_ u0
    rw [ud_ne (by omega), ud_ne (by omega), ud_ne (by omega), ud_ne (by omega), ud_ne (by omega), ud_ne (by omega), ud_ne (by omega), ud_ne (by omega), ud_ne (by omega), ud_ne (by omega), ud_ne (by omega), ud_ne (by omega), ud_ne (by omega)]
    exact h.P r_ u0
  have hO_ : SmO (ud (ud (ud (ud (ud (ud (ud f (sA a k + 0) v) (sA a k + 1) y) (sA a k + 2) (f 0)) (sA a k + 3) (f 0)) (sA a k + 4) 0) (sA a k + 5) (f 0 + f 4)) 14 (f 14 + 1)) (ud (ud (ud (ud (ud (ud g (eA a k) (g 0 + g 4)) (eA a k + 1) v) (eA a k + 2) y) (eA a k + 3) (g 0)) (eA a k + 4) (g 0)) (eA a k + 5) 0) := by
    intro r_ u0
    rw [ud_ne (by omega), ud_ne (by omega), ud_ne (by omega), ud_ne (by omega), ud_ne (by omega), ud_ne (by omega), ud_ne (by omega), ud_ne (by omega), ud_ne (by omega), ud_ne (by omega), ud_ne (by omega), ud_ne (by omega), ud_ne (by omega)]
    exact h.O r_ u0
  have hC_ : SmC (ud (ud (ud (ud (ud (ud (ud f (sA a k + 0) v) (sA a k + 1) y) (sA a k + 2) (f 0)) (sA a k + 3) (f 0)) (sA a k + 4) 0) (sA a k + 5) (f 0 + f 4)) 14 (f 14 + 1)) (ud (ud (ud (ud (ud (ud g (eA a k) (g 0 + g 4)) (eA a k + 1) v) (eA a k + 2) y) (eA a k + 3) (g 0)) (eA a k + 4) (g 0)) (eA a k + 5) 0) := by
    intro a_ u0
    rw [ud_ne (by omega), ud_ne (by omega), ud_ne (by omega), ud_ne (by omega), ud_ne (by omega), ud_ne (by omega), ud_ne (by omega), ud_ne (by omega), ud_ne (by omega), ud_ne (by omega), ud_ne (by omega), ud_ne (by omega), ud_ne (by omega)]
    exact h.C a_ u0
  have hM_ : SmM (ud (ud (ud (ud (ud (ud (ud f (sA a k + 0) v) (sA a k + 1) y) (sA a k + 2) (f 0)) (sA a k + 3) (f 0)) (sA a k + 4) 0) (sA a k + 5) (f 0 + f 4)) 14 (f 14 + 1)) (ud (ud (ud (ud (ud (ud g (eA a k) (g 0 + g 4)) (eA a k + 1) v) (eA a k + 2) y) (eA a k + 3) (g 0)) (eA a k + 4) (g 0)) (eA a k + 5) 0) := by
    intro r_ k_ u0 u1
    rw [ud_ne (by omega), ud_ne (by omega), ud_ne (by omega), ud_ne (by omega), ud_ne (by omega), ud_ne (by omega), ud_ne (by omega), ud_ne (by omega), ud_ne (by omega), ud_ne (by omega), ud_ne (by omega), ud_ne (by omega), ud_ne (by omega)]
    exact h.M r_ k_ u0 u1
  have hJ_ : SmJ (ud (ud (ud (ud (ud (ud (ud f (sA a k + 0) v) (sA a k + 1) y) (sA a k + 2) (f 0)) (sA a k + 3) (f 0)) (sA a k + 4) 0) (sA a k + 5) (f 0 + f 4)) 14 (f 14 + 1)) (ud (ud (ud (ud (ud (ud g (eA a k) (g 0 + g 4)) (eA a k + 1) v) (eA a k + 2) y) (eA a k + 3) (g 0)) (eA a k + 4) (g 0)) (eA a k + 5) 0) := by
    intro n i u0 u1
    have hj := jA_b u0
    rw [ud_ne (by omega), ud_ne (by omega), ud_ne (by omega), ud_ne (by omega), ud_ne (by omega), ud_ne (by omega), ud_ne (by omega), ud_ne (by omega), ud_ne (by omega), ud_ne (by omega), ud_ne (by omega), ud_ne (by omega), ud_ne (by omega)]
    exact h.J n i u0 u1
  have hK : ∀ n, 1 ≤ n ∧ n ≤ 60 → (ud (ud (ud (ud (ud (ud g (eA a k) (g 0 + g 4)) (eA a k + 1) v) (eA a k + 2) y) (eA a k + 3) (g 0)) (eA a k + 4) (g 0)) (eA a k + 5) 0) (36 + 3 * (n - 1)) = g (36 + 3 * (n - 1)) := by
    intro n u0
    rw [ud_ne (by omega), ud_ne (by omega), ud_ne (by omega), ud_ne (by omega), ud_ne (by omega), ud_ne (by omega)]
  have hV_ : SmV (ud (ud (ud (ud (ud (ud (ud f (sA a k + 0) v) (sA a k + 1) y) (sA a k + 2) (f 0)) (sA a k + 3) (f 0)) (sA a k + 4) 0) (sA a k + 5) (f 0 + f 4)) 14 (f 14 + 1)) (ud (ud (ud (ud (ud (ud g (eA a k) (g 0 + g 4)) (eA a k + 1) v) (eA a k + 2) y) (eA a k + 3) (g 0)) (eA a k + 4) (g 0)) (eA a k + 5) 0) := by
    intro r_ k_ u0 u1
    rw [lastI_cong hK (by rw [ud_ne (by omega), ud_ne (by omega), ud_ne (by omega), ud_ne (by omega), ud_ne (by omega), ud_ne (by omega)]; exact (hI.n60 (by omega)).2)]
    rw [ud_ne (by omega), ud_ne (by omega), ud_ne (by omega), ud_ne (by omega), ud_ne (by omega), ud_ne (by omega), ud_ne (by omega), ud_ne (by omega), ud_ne (by omega), ud_ne (by omega), ud_ne (by omega), ud_ne (by omega), ud_ne (by omega)]
    exact h.V r_ k_ u0 u1
  have hW_ : SmW (ud (ud (ud (ud (ud (ud (ud f (sA a k + 0) v) (sA a k + 1) y) (sA a k + 2) (f 0)) (sA a k + 3) (f 0)) (sA a k + 4) 0) (sA a k + 5) (f 0 + f 4)) 14 (f 14 + 1)) (ud (ud (ud (ud (ud (ud g (eA a k) (g 0 + g 4)) (eA a k + 1) v) (eA a k + 2) y) (eA a k + 3) (g 0)) (eA a k + 4) (g 0)) (eA a k + 5) 0) := by
    intro k_ u0
    rw [lastI_cong hK (by rw [ud_ne (by omega), ud_ne (by omega), ud_ne (by omega), ud_ne (by omega), ud_ne (by omega), ud_ne (by omega)]; exact (hI.n60 (by omega)).2)]
    rw [ud_ne (by omega), ud_ne (by omega), ud_ne (by omega), ud_ne (by omega), ud_ne (by omega), ud_ne (by omega), ud_ne (by omega), ud_ne (by omega), ud_ne (by omega), ud_ne (by omega), ud_ne (by omega), ud_ne (by omega), ud_ne (by omega)]
    exact h.W k_ u0
  have hH_ : SmH (ud (ud (ud (ud (ud (ud (ud f (sA a k + 0) v) (sA a k + 1) y) (sA a k + 2) (f 0)) (sA a k + 3) (f 0)) (sA a k + 4) 0) (sA a k + 5) (f 0 + f 4)) 14 (f 14 + 1)) (ud (ud (ud (ud (ud (ud g (eA a k) (g 0 + g 4)) (eA a k + 1) v) (eA a k + 2) y) (eA a k + 3) (g 0)) (eA a k + 4) (g 0)) (eA a k + 5) 0) := by
    intro c_ u0
    have q := h.H c_ u0
    have hc1 := cA_b (c := c_) u0
    have hc2 := hA_b (c := c_) u0
    have w1 : (ud (ud (ud (ud (ud (ud (ud f (sA a k + 0) v) (sA a k + 1) y) (sA a k + 2) (f 0)) (sA a k + 3) (f 0)) (sA a k + 4) 0) (sA a k + 5) (f 0 + f 4)) 14 (f 14 + 1)) (cA c_ + 7) = f (cA c_ + 7) := by rw [ud_ne (by omega), ud_ne (by omega), ud_ne (by omega), ud_ne (by omega), ud_ne (by omega), ud_ne (by omega), ud_ne (by omega)]
    have w2 : (ud (ud (ud (ud (ud (ud (ud f (sA a k + 0) v) (sA a k + 1) y) (sA a k + 2) (f 0)) (sA a k + 3) (f 0)) (sA a k + 4) 0) (sA a k + 5) (f 0 + f 4)) 14 (f 14 + 1)) (cA c_ + 1) = f (cA c_ + 1) := by rw [ud_ne (by omega), ud_ne (by omega), ud_ne (by omega), ud_ne (by omega), ud_ne (by omega), ud_ne (by omega), ud_ne (by omega)]
    have w3 : (ud (ud (ud (ud (ud (ud (ud f (sA a k + 0) v) (sA a k + 1) y) (sA a k + 2) (f 0)) (sA a k + 3) (f 0)) (sA a k + 4) 0) (sA a k + 5) (f 0 + f 4)) 14 (f 14 + 1)) (cA c_ + 3) = f (cA c_ + 3) := by rw [ud_ne (by omega), ud_ne (by omega), ud_ne (by omega), ud_ne (by omega), ud_ne (by omega), ud_ne (by omega), ud_ne (by omega)]
    have w4 : (ud (ud (ud (ud (ud (ud g (eA a k) (g 0 + g 4)) (eA a k + 1) v) (eA a k + 2) y) (eA a k + 3) (g 0)) (eA a k + 4) (g 0)) (eA a k + 5) 0) (hA c_ + 1) = g (hA c_ + 1) := by rw [ud_ne (by omega), ud_ne (by omega), ud_ne (by omega), ud_ne (by omega), ud_ne (by omega), ud_ne (by omega)]
    have w5 : (ud (ud (ud (ud (ud (ud g (eA a k) (g 0 + g 4)) (eA a k + 1) v) (eA a k + 2) y) (eA a k + 3) (g 0)) (eA a k + 4) (g 0)) (eA a k + 5) 0) (hA c_ + 3) = g (hA c_ + 3) := by rw [ud_ne (by omega), ud_ne (by omega), ud_ne (by omega), ud_ne (by omega), ud_ne (by omega), ud_ne (by omega)]
    have x0 : (ud (ud (ud (ud (ud (ud (ud f (sA a k + 0) v) (sA a k + 1) y) (sA a k + 2) (f 0)) (sA a k + 3) (f 0)) (sA a k + 4) 0) (sA a k + 5) (f 0 + f 4)) 14 (f 14 + 1)) (cA c_ + 0) = (ud (ud (ud (ud (ud (ud g (eA a k) (g 0 + g 4)) (eA a k + 1) v) (eA a k + 2) y) (eA a k + 3) (g 0)) (eA a k + 4) (g 0)) (eA a k + 5) 0) (hA c_ + 0) := by
      rw [ud_ne (by omega), ud_ne (by omega), ud_ne (by omega), ud_ne (by omega), ud_ne (by omega), ud_ne (by omega), ud_ne (by omega), ud_ne (by omega), ud_ne (by omega), ud_ne (by omega), ud_ne (by omega), ud_ne (by omega), ud_ne (by omega)] <;> (first | omega | exact q.1)
    have x1 : (ud (ud (ud (ud (ud (ud (ud f (sA a k + 0) v) (sA a k + 1) y) (sA a k + 2) (f 0)) (sA a k + 3) (f 0)) (sA a k + 4) 0) (sA a k + 5) (f 0 + f 4)) 14 (f 14 + 1)) (cA c_ + 2) = (ud (ud (ud (ud (ud (ud g (eA a k) (g 0 + g 4)) (eA a k + 1) v) (eA a k + 2) y) (eA a k + 3) (g 0)) (eA a k + 4) (g 0)) (eA a k + 5) 0) (hA c_ + 2) := by
      rw [ud_ne (by omega), ud_ne (by omega), ud_ne (by omega), ud_ne (by omega), ud_ne (by omega), ud_ne (by omega), ud_ne (by omega), ud_ne (by omega), ud_ne (by omega), ud_ne (by omega), ud_ne (by omega), ud_ne (by omega), ud_ne (by omega)] <;> (first | omega | exact q.2.1)
    have x2 : (ud (ud (ud (ud (ud (ud (ud f (sA a k + 0) v) (sA a k + 1) y) (sA a k + 2) (f 0)) (sA a k + 3) (f 0)) (sA a k + 4) 0) (sA a k + 5) (f 0 + f 4)) 14 (f 14 + 1)) (cA c_ + 4) = (ud (ud (ud (ud (ud (ud g (eA a k) (g 0 + g 4)) (eA a k + 1) v) (eA a k + 2) y) (eA a k + 3) (g 0)) (eA a k + 4) (g 0)) (eA a k + 5) 0) (hA c_ + 4) := by
      rw [ud_ne (by omega), ud_ne (by omega), ud_ne (by omega), ud_ne (by omega), ud_ne (by omega), ud_ne (by omega), ud_ne (by omega), ud_ne (by omega), ud_ne (by omega), ud_ne (by omega), ud_ne (by omega), ud_ne (by omega), ud_ne (by omega)] <;> (first | omega | exact q.2.2.1)
    have x3 : (ud (ud (ud (ud (ud (ud (ud f (sA a k + 0) v) (sA a k + 1) y) (sA a k + 2) (f 0)) (sA a k + 3) (f 0)) (sA a k + 4) 0) (sA a k + 5) (f 0 + f 4)) 14 (f 14 + 1)) (cA c_ + 5) = (ud (ud (ud (ud (ud (ud g (eA a k) (g 0 + g 4)) (eA a k + 1) v) (eA a k + 2) y) (eA a k + 3) (g 0)) (eA a k + 4) (g 0)) (eA a k + 5) 0) (hA c_ + 5) := by
      rw [ud_ne (by omega), ud_ne (by omega), ud_ne (by omega), ud_ne (by omega), ud_ne (by omega), ud_ne (by omega), ud_ne (by omega), ud_ne (by omega), ud_ne (by omega), ud_ne (by omega), ud_ne (by omega), ud_ne (by omega), ud_ne (by omega)] <;> (first | omega | exact q.2.2.2.1)
    have x4 : (ud (ud (ud (ud (ud (ud (ud f (sA a k + 0) v) (sA a k + 1) y) (sA a k + 2) (f 0)) (sA a k + 3) (f 0)) (sA a k + 4) 0) (sA a k + 5) (f 0 + f 4)) 14 (f 14 + 1)) (cA c_ + 6) = (ud (ud (ud (ud (ud (ud g (eA a k) (g 0 + g 4)) (eA a k + 1) v) (eA a k + 2) y) (eA a k + 3) (g 0)) (eA a k + 4) (g 0)) (eA a k + 5) 0) (hA c_ + 6) := by
      rw [ud_ne (by omega), ud_ne (by omega), ud_ne (by omega), ud_ne (by omega), ud_ne (by omega), ud_ne (by omega), ud_ne (by omega), ud_ne (by omega), ud_ne (by omega), ud_ne (by omega), ud_ne (by omega), ud_ne (by omega), ud_ne (by omega)] <;> (first | omega | exact q.2.2.2.2.1)
    refine ⟨x0, x1, x2, x3, x4, ?_, ?_⟩
    · rw [w2]; omega
    · rw [w1, w2, w3, w4, w5]; omega
  have hS_ : SmS (ud (ud (ud (ud (ud (ud (ud f (sA a k + 0) v) (sA a k + 1) y) (sA a k + 2) (f 0)) (sA a k + 3) (f 0)) (sA a k + 4) 0) (sA a k + 5) (f 0 + f 4)) 14 (f 14 + 1)) (ud (ud (ud (ud (ud (ud g (eA a k) (g 0 + g 4)) (eA a k + 1) v) (eA a k + 2) y) (eA a k + 3) (g 0)) (eA a k + 4) (g 0)) (eA a k + 5) 0) := by
    intro a_ k_ u0 u1
    rcases Decidable.em (a = a_ ∧ k = k_) with e | e
    · obtain ⟨e1, e2⟩ := e
      subst e1
      subst e2
      have q := h.S a k u0 u1
      have b1 := sA_b u0 u1
      have b2 := eA_b u0 u1
      have b3 := oA_b u0 u1
      have b4 := lA_b u0 u1
      have b5 := dA_b u0 u1
      refine ⟨?_, ?_, ?_, ?_, ?_, ?_, ?_, ?_, ?_, ?_, ?_, ?_⟩
      · rw [ud_ne (by omega), ud_ne (by omega), ud_ne (by omega), ud_ne (by omega), ud_ne (by omega), ud_ne (by omega), ud_eq, ud_ne (by omega), ud_ne (by omega), ud_ne (by omega), ud_ne (by omega), ud_eq] <;> (first | exact q.1 | omega)
      · rw [ud_ne (by omega), ud_ne (by omega), ud_ne (by omega), ud_ne (by omega), ud_ne (by omega), ud_eq, ud_ne (by omega), ud_ne (by omega), ud_ne (by omega), ud_eq] <;> (first | exact q.2.1 | omega)
      · rw [ud_ne (by omega), ud_ne (by omega), ud_ne (by omega), ud_ne (by omega), ud_eq, ud_ne (by omega), ud_ne (by omega), ud_eq] <;> (first | exact q.2.2.1 | omega)
      · rw [ud_ne (by omega), ud_ne (by omega), ud_ne (by omega), ud_eq, ud_ne (by omega), ud_eq] <;> (first | exact q.2.2.2.1 | omega)
      · rw [ud_ne (by omega), ud_ne (by omega), ud_eq, ud_eq] <;> (first | exact q.2.2.2.2.1 | omega)
      · rw [ud_ne (by omega), ud_ne (by omega), ud_ne (by omega), ud_ne (by omega), ud_ne (by omega), ud_ne (by omega), ud_ne (by omega), ud_eq, ud_ne (by omega), ud_ne (by omega), ud_ne (by omega), ud_ne (by omega), ud_ne (by omega), ud_eq] <;> (first | exact q.2.2.2.2.2.1 | (unfold EA at *; omega))
      · rw [ud_ne (by omega), ud_ne (by omega), ud_ne (by omega), ud_ne (by omega), ud_ne (by omega), ud_ne (by omega), ud_ne (by omega), ud_ne (by omega), ud_ne (by omega), ud_ne (by omega), ud_ne (by omega), ud_ne (by omega), ud_ne (by omega)] <;> (first | exact q.2.2.2.2.2.2.1 | omega)
      · rw [ud_ne (by omega), ud_ne (by omega), ud_ne (by omega), ud_ne (by omega), ud_ne (by omega), ud_ne (by omega), ud_ne (by omega), ud_ne (by omega), ud_ne (by omega), ud_ne (by omega), ud_ne (by omega), ud_ne (by omega), ud_ne (by omega), ud_ne (by omega), ud_ne (by omega), ud_ne (by omega), ud_ne (by omega), ud_ne (by omega), ud_ne (by omega)] <;> (first | exact q.2.2.2.2.2.2.2.1 | (unfold EA at *; omega))
      · rw [ud_ne (by omega), ud_ne (by omega), ud_ne (by omega), ud_ne (by omega), ud_ne (by omega), ud_ne (by omega), ud_ne (by omega), ud_ne (by omega), ud_ne (by omega), ud_ne (by omega), ud_ne (by omega), ud_ne (by omega), ud_ne (by omega)] <;> (first | exact q.2.2.2.2.2.2.2.2.1 | omega)
      · rw [ud_ne (by omega), ud_ne (by omega), ud_ne (by omega), ud_ne (by omega), ud_ne (by omega), ud_ne (by omega), ud_ne (by omega), ud_ne (by omega), ud_ne (by omega), ud_ne (by omega), ud_ne (by omega), ud_ne (by omega), ud_ne (by omega)] <;> (first | exact q.2.2.2.2.2.2.2.2.2.1 | omega)
      · rw [ud_ne (by omega), ud_ne (by omega), ud_ne (by omega), ud_ne (by omega), ud_ne (by omega), ud_ne (by omega), ud_ne (by omega), ud_ne (by omega), ud_ne (by omega), ud_ne (by omega), ud_ne (by omega), ud_ne (by omega), ud_ne (by omega), ud_ne (by omega), ud_ne (by omega), ud_ne (by omega), ud_ne (by omega), ud_ne (by omega), ud_ne (by omega)] <;> (first | exact q.2.2.2.2.2.2.2.2.2.2.1 | (unfold EA at *; omega))
      · rw [ud_ne (by omega), ud_ne (by omega), ud_ne (by omega), ud_ne (by omega), ud_ne (by omega), ud_ne (by omega), ud_ne (by omega), ud_ne (by omega), ud_ne (by omega), ud_ne (by omega), ud_ne (by omega), ud_ne (by omega), ud_ne (by omega), ud_ne (by omega), ud_ne (by omega), ud_ne (by omega), ud_ne (by omega), ud_ne (by omega), ud_ne (by omega)] <;> (first | exact q.2.2.2.2.2.2.2.2.2.2.2 | (unfold EA at *; omega))
    · have d1 : sA a_ k_ + 12 ≤ sA a k ∨ sA a k + 12 ≤ sA a_ k_ := by unfold sA; omega
      have d2 : eA a_ k_ + 6 ≤ eA a k ∨ eA a k + 6 ≤ eA a_ k_ := by unfold eA; omega
      have d3 : oA a_ k_ + 2 ≤ oA a k ∨ oA a k + 2 ≤ oA a_ k_ := by unfold oA; omega
      have d4 : lA a_ k_ + 3 ≤ lA a k ∨ lA a k + 3 ≤ lA a_ k_ := by unfold lA; omega
      have d5 : dA a_ k_ + 1 ≤ dA a k ∨ dA a k + 1 ≤ dA a_ k_ := by unfold dA; omega
      have q := h.S a_ k_ u0 u1
      have b1 := sA_b u0 u1
      have b2 := eA_b u0 u1
      have b3 := oA_b u0 u1
      have b4 := lA_b u0 u1
      have b5 := dA_b u0 u1
      refine ⟨?_, ?_, ?_, ?_, ?_, ?_, ?_, ?_, ?_, ?_, ?_, ?_⟩
      · rw [ud_ne (by omega), ud_ne (by omega), ud_ne (by omega), ud_ne (by omega), ud_ne (by omega), ud_ne (by omega), ud_ne (by omega), ud_ne (by omega), ud_ne (by omega), ud_ne (by omega), ud_ne (by omega), ud_ne (by omega), ud_ne (by omega)] <;> (exact q.1)
      · rw [ud_ne (by omega), ud_ne (by omega), ud_ne (by omega), ud_ne (by omega), ud_ne (by omega), ud_ne (by omega), ud_ne (by omega), ud_ne (by omega), ud_ne (by omega), ud_ne (by omega), ud_ne (by omega), ud_ne (by omega), ud_ne (by omega)] <;> (exact q.2.1)
      · rw [ud_ne (by omega), ud_ne (by omega), ud_ne (by omega), ud_ne (by omega), ud_ne (by omega), ud_ne (by omega), ud_ne (by omega), ud_ne (by omega), ud_ne (by omega), ud_ne (by omega), ud_ne (by omega), ud_ne (by omega), ud_ne (by omega)] <;> (exact q.2.2.1)
      · rw [ud_ne (by omega), ud_ne (by omega), ud_ne (by omega), ud_ne (by omega), ud_ne (by omega), ud_ne (by omega), ud_ne (by omega), ud_ne (by omega), ud_ne (by omega), ud_ne (by omega), ud_ne (by omega), ud_ne (by omega), ud_ne (by omega)] <;> (exact q.2.2.2.1)
      · rw [ud_ne (by omega), ud_ne (by omega), ud_ne (by omega), ud_ne (by omega), ud_ne (by omega), ud_ne (by omega), ud_ne (by omega), ud_ne (by omega), ud_ne (by omega), ud_ne (by omega), ud_ne (by omega), ud_ne (by omega), ud_ne (by omega)] <;> (exact q.2.2.2.2.1)
      · rw [ud_ne (by omega), ud_ne (by omega), ud_ne (by omega), ud_ne (by omega), ud_ne (by omega), ud_ne (by omega), ud_ne (by omega), ud_ne (by omega), ud_ne (by omega), ud_ne (by omega), ud_ne (by omega), ud_ne (by omega), ud_ne (by omega), ud_ne (by omega), ud_ne (by omega), ud_ne (by omega), ud_ne (by omega), ud_ne (by omega), ud_ne (by omega)] <;> (exact q.2.2.2.2.2.1)
      · rw [ud_ne (by omega), ud_ne (by omega), ud_ne (by omega), ud_ne (by omega), ud_ne (by omega), ud_ne (by omega), ud_ne (by omega), ud_ne (by omega), ud_ne (by omega), ud_ne (by omega), ud_ne (by omega), ud_ne (by omega), ud_ne (by omega)] <;> (exact q.2.2.2.2.2.2.1)
      · rw [ud_ne (by omega), ud_ne (by omega), ud_ne (by omega), ud_ne (by omega), ud_ne (by omega), ud_ne (by omega), ud_ne (by omega), ud_ne (by omega), ud_ne (by omega), ud_ne (by omega), ud_ne (by omega), ud_ne (by omega), ud_ne (by omega), ud_ne (by omega), ud_ne (by omega), ud_ne (by omega), ud_ne (by omega), ud_ne (by omega), ud_ne (by omega)] <;> (exact q.2.2.2.2.2.2.2.1)
      · rw [ud_ne (by omega), ud_ne (by omega), ud_ne (by omega), ud_ne (by omega), ud_ne (by omega), ud_ne (by omega), ud_ne (by omega), ud_ne (by omega), ud_ne (by omega), ud_ne (by omega), ud_ne (by omega), ud_ne (by omega), ud_ne (by omega)] <;> (exact q.2.2.2.2.2.2.2.2.1)
      · rw [ud_ne (by omega), ud_ne (by omega), ud_ne (by omega), ud_ne (by omega), ud_ne (by omega), ud_ne (by omega), ud_ne (by omega), ud_ne (by omega), ud_ne (by omega), ud_ne (by omega), ud_ne (by omega), ud_ne (by omega), ud_ne (by omega)] <;> (exact q.2.2.2.2.2.2.2.2.2.1)
      · rw [ud_ne (by omega), ud_ne (by omega), ud_ne (by omega), ud_ne (by omega), ud_ne (by omega), ud_ne (by omega), ud_ne (by omega), ud_ne (by omega), ud_ne (by omega), ud_ne (by omega), ud_ne (by omega), ud_ne (by omega), ud_ne (by omega), ud_ne (by omega), ud_ne (by omega), ud_ne (by omega), ud_ne (by omega), ud_ne (by omega), ud_ne (by omega)] <;> (exact q.2.2.2.2.2.2.2.2.2.2.1)
      · rw [ud_ne (by omega), ud_ne (by omega), ud_ne (by omega), ud_ne (by omega), ud_ne (by omega), ud_ne (by omega), ud_ne (by omega), ud_ne (by omega), ud_ne (by omega), ud_ne (by omega), ud_ne (by omega), ud_ne (by omega), ud_ne (by omega), ud_ne (by omega), ud_ne (by omega), ud_ne (by omega), ud_ne (by omega), ud_ne (by omega), ud_ne (by omega)] <;> (exact q.2.2.2.2.2.2.2.2.2.2.2)
  have hZ_ : SmZ (ud (ud (ud (ud (ud (ud (ud f (sA a k + 0) v) (sA a k + 1) y) (sA a k + 2) (f 0)) (sA a k + 3) (f 0)) (sA a k + 4) 0) (sA a k + 5) (f 0 + f 4)) 14 (f 14 + 1)) := by
    intro j u0
    rw [ud_ne (by omega), ud_ne (by omega), ud_ne (by omega), ud_ne (by omega), ud_ne (by omega), ud_ne (by omega), ud_ne (by omega)]
    exact h.Z j u0
  exact ⟨hA_, hT_, hL_, hE_, hP_, hO_, hC_, hM_, hV_, hW_, hJ_, hH_, hS_, hZ_⟩
set_option maxHeartbeats 4000000 in
theorem sm_led4 {x : Int} (h : Sm0 f g) (hI : IM B g) : Sm0 f (ud g 20 x) := by
  have hA_ : SmA f (ud g 20 x) := by
    have q := h.A
    unfold SmA at q
    refine ⟨?_, ?_, ?_⟩
    · rw [ud_ne (by omega)] <;> omega
    · rw [ud_ne (by omega)] <;> omega
    · rw [ud_ne (by omega)] <;> omega
  have hT_ : SmT f (ud g 20 x) := by
    intro i u0
    rw [ud_ne (by omega)]
    exact h.T i u0
  have hL_ : SmL f (ud g 20 x) := by
    intro i u0
    rw [ud_ne (by omega)]
    exact h.L i u0
  have hE_ : SmE f (ud g 20 x) := by
    intro k_ u0
    rw [ud_ne (by omega)]
    exact h.E k_ u0
  have hP_ : SmP f (ud g 20 x) := by
    intro r_ u0
    rw [ud_ne (by omega)]
    exact h.P r_ u0
  have hO_ : SmO f (ud g 20 x) := by
    intro r_ u0
    rw [ud_ne (by omega)]
    exact h.O r_ u0
  have hC_ : SmC f (ud g 20 x) := by
    intro a_ u0
    rw [ud_ne (by omega)]
    exact h.C a_ u0
  have hM_ : SmM f (ud g 20 x) := by
    intro r_ k_ u0 u1
    rw [ud_ne (by omega)]
    exact h.M r_ k_ u0 u1
  have hJ_ : SmJ f (ud g 20 x) := by
    intro n i u0 u1
    have hj := jA_b u0
    rw [ud_ne (by omega)]
    exact h.J n i u0 u1
  have hK : ∀ n, 1 ≤ n ∧ n ≤ 60 → (ud g 20 x) (36 + 3 * (n - 1)) = g (36 + 3 * (n - 1)) := by
    intro n u0
    rw [ud_ne (by omega)]
  have hV_ : SmV f (ud g 20 x) := by
    intro r_ k_ u0 u1
    rw [lastI_cong hK (by rw [ud_ne (by omega)]; exact (hI.n60 (by omega)).2)]
    rw [ud_ne (by omega)]
    exact h.V r_ k_ u0 u1
  have hW_ : SmW f (ud g 20 x) := by
    intro k_ u0
    rw [lastI_cong hK (by rw [ud_ne (by omega)]; exact (hI.n60 (by omega)).2)]
    rw [ud_ne (by omega)]
    exact h.W k_ u0
  have hH_ : SmH f (ud g 20 x) := by
    intro c_ u0
    have q := h.H c_ u0
    have hc1 := cA_b (c := c_) u0
    have hc2 := hA_b (c := c_) u0
    have w1 : f (cA c_ + 7) = f (cA c_ + 7) := rfl
    have w2 : f (cA c_ + 1) = f (cA c_ + 1) := rfl
    have w3 : f (cA c_ + 3) = f (cA c_ + 3) := rfl
    have w4 : (ud g 20 x) (hA c_ + 1) = g (hA c_ + 1) := by rw [ud_ne (by omega)]
    have w5 : (ud g 20 x) (hA c_ + 3) = g (hA c_ + 3) := by rw [ud_ne (by omega)]
    have x0 : f (cA c_ + 0) = (ud g 20 x) (hA c_ + 0) := by
      rw [ud_ne (by omega)] <;> (first | omega | exact q.1)
    have x1 : f (cA c_ + 2) = (ud g 20 x) (hA c_ + 2) := by
      rw [ud_ne (by omega)] <;> (first | omega | exact q.2.1)
    have x2 : f (cA c_ + 4) = (ud g 20 x) (hA c_ + 4) := by
      rw [ud_ne (by omega)] <;> (first | omega | exact q.2.2.1)
    have x3 : f (cA c_ + 5) = (ud g 20 x) (hA c_ + 5) := by
      rw [ud_ne (by omega)] <;> (first | omega | exact q.2.2.2.1)
    have x4 : f (cA c_ + 6) = (ud g 20 x) (hA c_ + 6) := by
      rw [ud_ne (by omega)] <;> (first | omega | exact q.2.2.2.2.1)
    refine ⟨x0, x1, x2, x3, x4, ?_, ?_⟩
    · rw [w2]; omega
    · rw [w1, w2, w3, w4, w5]; omega
  have hS_ : SmS f (ud g 20 x) := by
    intro a_ k_ u0 u1
    have q := h.S a_ k_ u0 u1
    have b1 := sA_b u0 u1
    have b2 := eA_b u0 u1
    have b3 := oA_b u0 u1
    have b4 := lA_b u0 u1
    have b5 := dA_b u0 u1
    refine ⟨?_, ?_, ?_, ?_, ?_, ?_, ?_, ?_, ?_, ?_, ?_, ?_⟩
    · rw [ud_ne (by omega)] <;> (exact q.1)
    · rw [ud_ne (by omega)] <;> (exact q.2.1)
    · rw [ud_ne (by omega)] <;> (exact q.2.2.1)
    · rw [ud_ne (by omega)] <;> (exact q.2.2.2.1)
    · rw [ud_ne (by omega)] <;> (exact q.2.2.2.2.1)
    · rw [ud_ne (by omega), ud_ne (by omega)] <;> (exact q.2.2.2.2.2.1)
    · rw [ud_ne (by omega)] <;> (exact q.2.2.2.2.2.2.1)
    · rw [ud_ne (by omega), ud_ne (by omega)] <;> (exact q.2.2.2.2.2.2.2.1)
    · rw [ud_ne (by omega)] <;> (exact q.2.2.2.2.2.2.2.2.1)
    · rw [ud_ne (by omega)] <;> (exact q.2.2.2.2.2.2.2.2.2.1)
    · rw [ud_ne (by omega), ud_ne (by omega)] <;> (exact q.2.2.2.2.2.2.2.2.2.2.1)
    · rw [ud_ne (by omega), ud_ne (by omega)] <;> (exact q.2.2.2.2.2.2.2.2.2.2.2)
  have hZ_ : SmZ f := by
    intro j u0
    exact h.Z j u0
  exact ⟨hA_, hT_, hL_, hE_, hP_, hO_, hC_, hM_, hV_, hW_, hJ_, hH_, hS_, hZ_⟩
end SO
