/-! both rows after an act, case by case: look, refusals, settings, goings, ticks -/
section SL
variable {f g : Int → Int} {B : Int}
set_option maxHeartbeats 4000000 in
theorem sm_lookN {c : Int} (hc : 0 ≤ c ∧ c < 6) {x y : Int} (hh : 0 ≤ g (hA c + 1)) (h : Sm0 f g) (hI : IM B g) : Sm0 (ud (ud (ud (ud (ud f 16 (f 16 + 1)) (cA c + 3) 1) (cA c + 4) x) (cA c + 5) y) (cA c + 6) 1) (ud (ud (ud (ud (ud g (hA c + 3) 1) (hA c + 4) x) (hA c + 5) y) (hA c + 6) 1) 22 (g 22 + 1)) := by
  have pc1 := cA_b hc
  have pc2 := hA_b hc
  have pc3 := h.H c hc
  have l6 : f 16 = g 22 := h.L 6 (by omega)
  have hA_ : SmA (ud (ud (ud (ud (ud f 16 (f 16 + 1)) (cA c + 3) 1) (cA c + 4) x) (cA c + 5) y) (cA c + 6) 1) (ud (ud (ud (ud (ud g (hA c + 3) 1) (hA c + 4) x) (hA c + 5) y) (hA c + 6) 1) 22 (g 22 + 1)) := by
    have q := h.A
    unfold SmA at q
    refine ⟨?_, ?_, ?_⟩
    · rw [ud_ne (by omega), ud_ne (by omega), ud_ne (by omega), ud_ne (by omega), ud_ne (by omega), ud_ne (by omega), ud_ne (by omega), ud_ne (by omega), ud_ne (by omega), ud_ne (by omega)] <;> omega
    · rw [ud_ne (by omega), ud_ne (by omega), ud_ne (by omega), ud_ne (by omega), ud_ne (by omega), ud_ne (by omega), ud_ne (by omega), ud_ne (by omega), ud_ne (by omega), ud_ne (by omega)] <;> omega
    · rw [ud_ne (by omega), ud_ne (by omega), ud_ne (by omega), ud_ne (by omega), ud_ne (by omega), ud_ne (by omega), ud_ne (by omega), ud_ne (by omega), ud_ne (by omega), ud_ne (by omega)] <;> omega
  have hT_ : SmT (ud (ud (ud (ud (ud f 16 (f 16 + 1)) (cA c + 3) 1) (cA c + 4) x) (cA c + 5) y) (cA c + 6) 1) (ud (ud (ud (ud (ud g (hA c + 3) 1) (hA c + 4) x) (hA c + 5) y) (hA c + 6) 1) 22 (g 22 + 1)) := by
    intro i u0
    rw [ud_ne (by omega), ud_ne (by omega), ud_ne (by omega), ud_ne (by omega), ud_ne (by omega), ud_ne (by omega), ud_ne (by omega), ud_ne (by omega), ud_ne (by omega), ud_ne (by omega)]
    exact h.T i u0
  have hL_ : SmL (ud (ud (ud (ud (ud f 16 (f 16 + 1)) (cA c + 3) 1) (cA c + 4) x) (cA c + 5) y) (cA c + 6) 1) (ud (ud (ud (ud (ud g (hA c + 3) 1) (hA c + 4) x) (hA c + 5) y) (hA c + 6) 1) 22 (g 22 + 1)) := by
    intro i u0
    rcases Decidable.em (6 = i) with e | e
    · subst e
      have q := h.L 6 u0
      rw [ud_ne (by omega), ud_ne (by omega), ud_ne (by omega), ud_ne (by omega), ud_at (by omega), ud_at (by omega)] <;> (first | exact q | omega | (simp only [Int.reduceAdd, Int.add_zero] at *; omega))
    · skip
      rw [ud_ne (by omega), ud_ne (by omega), ud_ne (by omega), ud_ne (by omega), ud_ne (by omega), ud_ne (by omega), ud_ne (by omega), ud_ne (by omega), ud_ne (by omega), ud_ne (by omega)]
      exact h.L i u0
  have hE_ : SmE (ud (ud (ud (ud (ud f 16 (f 16 + 1)) (cA c + 3) 1) (cA c + 4) x) (cA c + 5) y) (cA c + 6) 1) (ud (ud (ud (ud (ud g (hA c + 3) 1) (hA c + 4) x) (hA c + 5) y) (hA c + 6) 1) 22 (g 22 + 1)) := by
    intro k_ u0
    rw [ud_ne (by omega), ud_ne (by omega), ud_ne (by omega), ud_ne (by omega), ud_ne (by omega), ud_ne (by omega), ud_ne (by omega), ud_ne (by omega), ud_ne (by omega), ud_ne (by omega)]
    exact h.E k_ u0
  have hP_ : SmP (ud (ud (ud (ud (ud f 16 (f 16 + 1)) (cA c + 3) 1) (cA c + 4) x) (cA c + 5) y) (cA c + 6) 1) (ud (ud (ud (ud (ud g (hA c + 3) 1) (hA c + 4) x) (hA c + 5) y) (hA c + 6) 1) 22 (g 22 + 1)) := by
    intro r_ u0
    rw [ud_ne (by omega), ud_ne (by omega), ud_ne (by omega), ud_ne (by omega), ud_ne (by omega), ud_ne (by omega), ud_ne (by omega), ud_ne (by omega), ud_ne (by omega), ud_ne (by omega)]
    exact h.P r_ u0
  have hO_ : SmO (ud (ud (ud (ud (ud f 16 (f 16 + 1)) (cA c + 3) 1) (cA c + 4) x) (cA c + 5) y) (cA c + 6) 1) (ud (ud (ud (ud (ud g (hA c + 3) 1) (hA c + 4) x) (hA c + 5) y) (hA c + 6) 1) 22 (g 22 + 1)) := by
    intro r_ u0
    rw [ud_ne (by omega), ud_ne (by omega), ud_ne (by omega), ud_ne (by omega), ud_ne (by omega), ud_ne (by omega), ud_ne (by omega), ud_ne (by omega), ud_ne (by omega), ud_ne (by omega)]
    exact h.O r_ u0
  have hC_ : SmC (ud (ud (ud (ud (ud f 16 (f 16 + 1)) (cA c + 3) 1) (cA c + 4) x) (cA c + 5) y) (cA c + 6) 1) (ud (ud (ud (ud (ud g (hA c + 3) 1) (hA c + 4) x) (hA c + 5) y) (hA c + 6) 1) 22 (g 22 + 1)) := by
    intro a_ u0
    rw [ud_ne (by omega), ud_ne (by omega), ud_ne (by omega), ud_ne (by omega), ud_ne (by omega), ud_ne (by omega), ud_ne (by omega), ud_ne (by omega), ud_ne (by omega), ud_ne (by omega)]
    exact h.C a_ u0
  have hM_ : SmM (ud (ud (ud (ud (ud f 16 (f 16 + 1)) (cA c + 3) 1) (cA c + 4) x) (cA c + 5) y) (cA c + 6) 1) (ud (ud (ud (ud (ud g (hA c + 3) 1) (hA c + 4) x) (hA c + 5) y) (hA c + 6) 1) 22 (g 22 + 1)) := by
    intro r_ k_ u0 u1
    rw [ud_ne (by omega), ud_ne (by omega), ud_ne (by omega), ud_ne (by omega), ud_ne (by omega), ud_ne (by omega), ud_ne (by omega), ud_ne (by omega), ud_ne (by omega), ud_ne (by omega)]
    exact h.M r_ k_ u0 u1
  have hJ_ : SmJ (ud (ud (ud (ud (ud f 16 (f 16 + 1)) (cA c + 3) 1) (cA c + 4) x) (cA c + 5) y) (cA c + 6) 1) (ud (ud (ud (ud (ud g (hA c + 3) 1) (hA c + 4) x) (hA c + 5) y) (hA c + 6) 1) 22 (g 22 + 1)) := by
    intro n i u0 u1
    have hj := jA_b u0
    rw [ud_ne (by omega), ud_ne (by omega), ud_ne (by omega), ud_ne (by omega), ud_ne (by omega), ud_ne (by omega), ud_ne (by omega), ud_ne (by omega), ud_ne (by omega), ud_ne (by omega)]
    exact h.J n i u0 u1
  have hK : ∀ n, 1 ≤ n ∧ n ≤ 60 → (ud (ud (ud (ud (ud g (hA c + 3) 1) (hA c + 4) x) (hA c + 5) y) (hA c + 6) 1) 22 (g 22 + 1)) (36 + 3 * (n - 1)) = g (36 + 3 * (n - 1)) := by
    intro n u0
    rw [ud_ne (by omega), ud_ne (by omega), ud_ne (by omega), ud_ne (by omega), ud_ne (by omega)]
  have hV_ : SmV (ud (ud (ud (ud (ud f 16 (f 16 + 1)) (cA c + 3) 1) (cA c + 4) x) (cA c + 5) y) (cA c + 6) 1) (ud (ud (ud (ud (ud g (hA c + 3) 1) (hA c + 4) x) (hA c + 5) y) (hA c + 6) 1) 22 (g 22 + 1)) := by
    intro r_ k_ u0 u1
    rw [lastI_cong hK (by rw [ud_ne (by omega), ud_ne (by omega), ud_ne (by omega), ud_ne (by omega), ud_ne (by omega)]; exact (hI.n60 (by omega)).2)]
    rw [ud_ne (by omega), ud_ne (by omega), ud_ne (by omega), ud_ne (by omega), ud_ne (by omega), ud_ne (by omega), ud_ne (by omega), ud_ne (by omega), ud_ne (by omega), ud_ne (by omega)]
    exact h.V r_ k_ u0 u1
  have hW_ : SmW (ud (ud (ud (ud (ud f 16 (f 16 + 1)) (cA c + 3) 1) (cA c + 4) x) (cA c + 5) y) (cA c + 6) 1) (ud (ud (ud (ud (ud g (hA c + 3) 1) (hA c + 4) x) (hA c + 5) y) (hA c + 6) 1) 22 (g 22 + 1)) := by
    intro k_ u0
    rw [lastI_cong hK (by rw [ud_ne (by omega), ud_ne (by omega), ud_ne (by omega), ud_ne (by omega), ud_ne (by omega)]; exact (hI.n60 (by omega)).2)]
    rw [ud_ne (by omega), ud_ne (by omega), ud_ne (by omega), ud_ne (by omega), ud_ne (by omega), ud_ne (by omega), ud_ne (by omega), ud_ne (by omega), ud_ne (by omega), ud_ne (by omega)]
    exact h.W k_ u0
  have hH_ : SmH (ud (ud (ud (ud (ud f 16 (f 16 + 1)) (cA c + 3) 1) (cA c + 4) x) (cA c + 5) y) (cA c + 6) 1) (ud (ud (ud (ud (ud g (hA c + 3) 1) (hA c + 4) x) (hA c + 5) y) (hA c + 6) 1) 22 (g 22 + 1)) := by
    intro c_ u0
    rcases Decidable.em (c = c_) with e | e
    · subst e
      have q := h.H c u0
      have hc1 := cA_b (c := c) u0
      have hc2 := hA_b (c := c) u0
      have w1 : (ud (ud (ud (ud (ud f 16 (f 16 + 1)) (cA c + 3) 1) (cA c + 4) x) (cA c + 5) y) (cA c + 6) 1) (cA c + 7) = f (cA c + 7) := by rw [ud_ne (by omega), ud_ne (by omega), ud_ne (by omega), ud_ne (by omega), ud_ne (by omega)]
      have w2 : (ud (ud (ud (ud (ud f 16 (f 16 + 1)) (cA c + 3) 1) (cA c + 4) x) (cA c + 5) y) (cA c + 6) 1) (cA c + 1) = f (cA c + 1) := by rw [ud_ne (by omega), ud_ne (by omega), ud_ne (by omega), ud_ne (by omega), ud_ne (by omega)]
      have w3 : (ud (ud (ud (ud (ud f 16 (f 16 + 1)) (cA c + 3) 1) (cA c + 4) x) (cA c + 5) y) (cA c + 6) 1) (cA c + 3) = 1 := by rw [ud_ne (by omega), ud_ne (by omega), ud_ne (by omega), ud_eq]
      have w4 : (ud (ud (ud (ud (ud g (hA c + 3) 1) (hA c + 4) x) (hA c + 5) y) (hA c + 6) 1) 22 (g 22 + 1)) (hA c + 1) = g (hA c + 1) := by rw [ud_ne (by omega), ud_ne (by omega), ud_ne (by omega), ud_ne (by omega), ud_ne (by omega)]
      have w5 : (ud (ud (ud (ud (ud g (hA c + 3) 1) (hA c + 4) x) (hA c + 5) y) (hA c + 6) 1) 22 (g 22 + 1)) (hA c + 3) = 1 := by rw [ud_ne (by omega), ud_ne (by omega), ud_ne (by omega), ud_ne (by omega), ud_eq]
      have x0 : (ud (ud (ud (ud (ud f 16 (f 16 + 1)) (cA c + 3) 1) (cA c + 4) x) (cA c + 5) y) (cA c + 6) 1) (cA c + 0) = (ud (ud (ud (ud (ud g (hA c + 3) 1) (hA c + 4) x) (hA c + 5) y) (hA c + 6) 1) 22 (g 22 + 1)) (hA c + 0) := by
        rw [ud_ne (by omega), ud_ne (by omega), ud_ne (by omega), ud_ne (by omega), ud_ne (by omega), ud_ne (by omega), ud_ne (by omega), ud_ne (by omega), ud_ne (by omega), ud_ne (by omega)] <;> (first | omega | exact q.1)
      have x1 : (ud (ud (ud (ud (ud f 16 (f 16 + 1)) (cA c + 3) 1) (cA c + 4) x) (cA c + 5) y) (cA c + 6) 1) (cA c + 2) = (ud (ud (ud (ud (ud g (hA c + 3) 1) (hA c + 4) x) (hA c + 5) y) (hA c + 6) 1) 22 (g 22 + 1)) (hA c + 2) := by
        rw [ud_ne (by omega), ud_ne (by omega), ud_ne (by omega), ud_ne (by omega), ud_ne (by omega), ud_ne (by omega), ud_ne (by omega), ud_ne (by omega), ud_ne (by omega), ud_ne (by omega)] <;> (first | omega | exact q.2.1)
      have x2 : (ud (ud (ud (ud (ud f 16 (f 16 + 1)) (cA c + 3) 1) (cA c + 4) x) (cA c + 5) y) (cA c + 6) 1) (cA c + 4) = (ud (ud (ud (ud (ud g (hA c + 3) 1) (hA c + 4) x) (hA c + 5) y) (hA c + 6) 1) 22 (g 22 + 1)) (hA c + 4) := by
        rw [ud_ne (by omega), ud_ne (by omega), ud_eq, ud_ne (by omega), ud_ne (by omega), ud_ne (by omega), ud_eq] <;> (first | omega | exact q.2.2.1)
      have x3 : (ud (ud (ud (ud (ud f 16 (f 16 + 1)) (cA c + 3) 1) (cA c + 4) x) (cA c + 5) y) (cA c + 6) 1) (cA c + 5) = (ud (ud (ud (ud (ud g (hA c + 3) 1) (hA c + 4) x) (hA c + 5) y) (hA c + 6) 1) 22 (g 22 + 1)) (hA c + 5) := by
        rw [ud_ne (by omega), ud_eq, ud_ne (by omega), ud_ne (by omega), ud_eq] <;> (first | omega | exact q.2.2.2.1)
      have x4 : (ud (ud (ud (ud (ud f 16 (f 16 + 1)) (cA c + 3) 1) (cA c + 4) x) (cA c + 5) y) (cA c + 6) 1) (cA c + 6) = (ud (ud (ud (ud (ud g (hA c + 3) 1) (hA c + 4) x) (hA c + 5) y) (hA c + 6) 1) 22 (g 22 + 1)) (hA c + 6) := by
        rw [ud_eq, ud_ne (by omega), ud_eq] <;> (first | omega | exact q.2.2.2.2.1)
      refine ⟨x0, x1, x2, x3, x4, ?_, ?_⟩
      · rw [w2]; omega
      · rw [w1, w2, w3, w4, w5]; omega
    · have d1 : cA c_ + 8 ≤ cA c ∨ cA c + 8 ≤ cA c_ := by unfold cA; omega
      have d2 : hA c_ + 7 ≤ hA c ∨ hA c + 7 ≤ hA c_ := by unfold hA; omega
      have q := h.H c_ u0
      have hc1 := cA_b (c := c_) u0
      have hc2 := hA_b (c := c_) u0
      have w1 : (ud (ud (ud (ud (ud f 16 (f 16 + 1)) (cA c + 3) 1) (cA c + 4) x) (cA c + 5) y) (cA c + 6) 1) (cA c_ + 7) = f (cA c_ + 7) := by rw [ud_ne (by omega), ud_ne (by omega), ud_ne (by omega), ud_ne (by omega), ud_ne (by omega)]
      have w2 : (ud (ud (ud (ud (ud f 16 (f 16 + 1)) (cA c + 3) 1) (cA c + 4) x) (cA c + 5) y) (cA c + 6) 1) (cA c_ + 1) = f (cA c_ + 1) := by rw [ud_ne (by omega), ud_ne (by omega), ud_ne (by omega), ud_ne (by omega), ud_ne (by omega)]
      have w3 : (ud (ud (ud (ud (ud f 16 (f 16 + 1)) (cA c + 3) 1) (cA c + 4) x) (cA c + 5) y) (cA c + 6) 1) (cA c_ + 3) = f (cA c_ + 3) := by rw [ud_ne (by omega), ud_ne (by omega), ud_ne (by omega), ud_ne (by omega), ud_ne (by omega)]
      have w4 : (ud (ud (ud (ud (ud g (hA c + 3) 1) (hA c + 4) x) (hA c + 5) y) (hA c + 6) 1) 22 (g 22 + 1)) (hA c_ + 1) = g (hA c_ + 1) := by rw [ud_ne (by omega), ud_ne (by omega), ud_ne (by omega), ud_ne (by omega), ud_ne (by omega)]
      have w5 : (ud (ud (ud (ud (ud g (hA c + 3) 1) (hA c + 4) x) (hA c + 5) y) (hA c + 6) 1) 22 (g 22 + 1)) (hA c_ + 3) = g (hA c_ + 3) := by rw [ud_ne (by omega), ud_ne (by omega), ud_ne (by omega), ud_ne (by omega), ud_ne (by omega)]
      have x0 : (ud (ud (ud (ud (ud f 16 (f 16 + 1)) (cA c + 3) 1) (cA c + 4) x) (cA c + 5) y) (cA c + 6) 1) (cA c_ + 0) = (ud (ud (ud (ud (ud g (hA c + 3) 1) (hA c + 4) x) (hA c + 5) y) (hA c + 6) 1) 22 (g 22 + 1)) (hA c_ + 0) := by
        rw [ud_ne (by omega), ud_ne (by omega), ud_ne (by omega), ud_ne (by omega), ud_ne (by omega), ud_ne (by omega), ud_ne (by omega), ud_ne (by omega), ud_ne (by omega), ud_ne (by omega)] <;> (first | omega | exact q.1)
      have x1 : (ud (ud (ud (ud (ud f 16 (f 16 + 1)) (cA c + 3) 1) (cA c + 4) x) (cA c + 5) y) (cA c + 6) 1) (cA c_ + 2) = (ud (ud (ud (ud (ud g (hA c + 3) 1) (hA c + 4) x) (hA c + 5) y) (hA c + 6) 1) 22 (g 22 + 1)) (hA c_ + 2) := by
        rw [ud_ne (by omega), ud_ne (by omega), ud_ne (by omega), ud_ne (by omega), ud_ne (by omega), ud_ne (by omega), ud_ne (by omega), ud_ne (by omega), ud_ne (by omega), ud_ne (by omega)] <;> (first | omega | exact q.2.1)
      have x2 : (ud (ud (ud (ud (ud f 16 (f 16 + 1)) (cA c + 3) 1) (cA c + 4) x) (cA c + 5) y) (cA c + 6) 1) (cA c_ + 4) = (ud (ud (ud (ud (ud g (hA c + 3) 1) (hA c + 4) x) (hA c + 5) y) (hA c + 6) 1) 22 (g 22 + 1)) (hA c_ + 4) := by
        rw [ud_ne (by omega), ud_ne (by omega), ud_ne (by omega), ud_ne (by omega), ud_ne (by omega), ud_ne (by omega), ud_ne (by omega), ud_ne (by omega), ud_ne (by omega), ud_ne (by omega)] <;> (first | omega | exact q.2.2.1)
      have x3 : (ud (ud (ud (ud (ud f 16 (f 16 + 1)) (cA c + 3) 1) (cA c + 4) x) (cA c + 5) y) (cA c + 6) 1) (cA c_ + 5) = (ud (ud (ud (ud (ud g (hA c + 3) 1) (hA c + 4) x) (hA c + 5) y) (hA c + 6) 1) 22 (g 22 + 1)) (hA c_ + 5) := by
        rw [ud_ne (by omega), ud_ne (by omega), ud_ne (by omega), ud_ne (by omega), ud_ne (by omega), ud_ne (by omega), ud_ne (by omega), ud_ne (by omega), ud_ne (by omega), ud_ne (by omega)] <;> (first | omega | exact q.2.2.2.1)
      have x4 : (ud (ud (ud (ud (ud f 16 (f 16 + 1)) (cA c + 3) 1) (cA c + 4) x) (cA c + 5) y) (cA c + 6) 1) (cA c_ + 6) = (ud (ud (ud (ud (ud g (hA c + 3) 1) (hA c + 4) x) (hA c + 5) y) (hA c + 6) 1) 22 (g 22 + 1)) (hA c_ + 6) := by
        rw [ud_ne (by omega), ud_ne (by omega), ud_ne (by omega), ud_ne (by omega), ud_ne (by omega), ud_ne (by omega), ud_ne (by omega), ud_ne (by omega), ud_ne (by omega), ud_ne (by omega)] <;> (first | omega | exact q.2.2.2.2.1)
      refine ⟨x0, x1, x2, x3, x4, ?_, ?_⟩
      · rw [w2]; omega
      · rw [w1, w2, w3, w4, w5]; omega
  have hS_ : SmS (ud (ud (ud (ud (ud f 16 (f 16 + 1)) (cA c + 3) 1) (cA c + 4) x) (cA c + 5) y) (cA c + 6) 1) (ud (ud (ud (ud (ud g (hA c + 3) 1) (hA c + 4) x) (hA c + 5) y) (hA c + 6) 1) 22 (g 22 + 1)) := by
    intro a_ k_ u0 u1
    have q := h.S a_ k_ u0 u1
    have b1 := sA_b u0 u1
    have b2 := eA_b u0 u1
    have b3 := oA_b u0 u1
    have b4 := lA_b u0 u1
    have b5 := dA_b u0 u1
    refine ⟨?_, ?_, ?_, ?_, ?_, ?_, ?_, ?_, ?_, ?_, ?_, ?_⟩
    · rw [ud_ne (by omega), ud_ne (by omega), ud_ne (by omega), ud_ne (by omega), ud_ne (by omega), ud_ne (by omega), ud_ne (by omega), ud_ne (by omega), ud_ne (by omega), ud_ne (by omega)] <;> (exact q.1)
    · rw [ud_ne (by omega), ud_ne (by omega), ud_ne (by omega), ud_ne (by omega), ud_ne (by omega), ud_ne (by omega), ud_ne (by omega), ud_ne (by omega), ud_ne (by omega), ud_ne (by omega)] <;> (exact q.2.1)
    · rw [ud_ne (by omega), ud_ne (by omega), ud_ne (by omega), ud_ne (by omega), ud_ne (by omega), ud_ne (by omega), ud_ne (by omega), ud_ne (by omega), ud_ne (by omega), ud_ne (by omega)] <;> (exact q.2.2.1)
    · rw [ud_ne (by omega), ud_ne (by omega), ud_ne (by omega), ud_ne (by omega), ud_ne (by omega), ud_ne (by omega), ud_ne (by omega), ud_ne (by omega), ud_ne (by omega), ud_ne (by omega)] <;> (exact q.2.2.2.1)
    · rw [ud_ne (by omega), ud_ne (by omega), ud_ne (by omega), ud_ne (by omega), ud_ne (by omega), ud_ne (by omega), ud_ne (by omega), ud_ne (by omega), ud_ne (by omega), ud_ne (by omega)] <;> (exact q.2.2.2.2.1)
    · rw [ud_ne (by omega), ud_ne (by omega), ud_ne (by omega), ud_ne (by omega), ud_ne (by omega), ud_ne (by omega), ud_ne (by omega), ud_ne (by omega), ud_ne (by omega), ud_ne (by omega), ud_ne (by omega), ud_ne (by omega), ud_ne (by omega), ud_ne (by omega), ud_ne (by omega)] <;> (exact q.2.2.2.2.2.1)
    · rw [ud_ne (by omega), ud_ne (by omega), ud_ne (by omega), ud_ne (by omega), ud_ne (by omega), ud_ne (by omega), ud_ne (by omega), ud_ne (by omega), ud_ne (by omega), ud_ne (by omega)] <;> (exact q.2.2.2.2.2.2.1)
    · rw [ud_ne (by omega), ud_ne (by omega), ud_ne (by omega), ud_ne (by omega), ud_ne (by omega), ud_ne (by omega), ud_ne (by omega), ud_ne (by omega), ud_ne (by omega), ud_ne (by omega), ud_ne (by omega), ud_ne (by omega), ud_ne (by omega), ud_ne (by omega), ud_ne (by omega)] <;> (exact q.2.2.2.2.2.2.2.1)
    · rw [ud_ne (by omega), ud_ne (by omega), ud_ne (by omega), ud_ne (by omega), ud_ne (by omega), ud_ne (by omega), ud_ne (by omega), ud_ne (by omega), ud_ne (by omega), ud_ne (by omega)] <;> (exact q.2.2.2.2.2.2.2.2.1)
    · rw [ud_ne (by omega), ud_ne (by omega), ud_ne (by omega), ud_ne (by omega), ud_ne (by omega), ud_ne (by omega), ud_ne (by omega), ud_ne (by omega), ud_ne (by omega), ud_ne (by omega)] <;> (exact q.2.2.2.2.2.2.2.2.2.1)
    · rw [ud_ne (by omega), ud_ne (by omega), ud_ne (by omega), ud_ne (by omega), ud_ne (by omega), ud_ne (by omega), ud_ne (by omega), ud_ne (by omega), ud_ne (by omega), ud_ne (by omega), ud_ne (by omega), ud_ne (by omega), ud_ne (by omega), ud_ne (by omega), ud_ne (by omega)] <;> (exact q.2.2.2.2.2.2.2.2.2.2.1)
    · rw [ud_ne (by omega), ud_ne (by omega), ud_ne (by omega), ud_ne (by omega), ud_ne (by omega), ud_ne (by omega), ud_ne (by omega), ud_ne (by omega), ud_ne (by omega), ud_ne (by omega), ud_ne (by omega), ud_ne (by omega), ud_ne (by omega), ud_ne (by omega), ud_ne (by omega)] <;> (exact q.2.2.2.2.2.2.2.2.2.2.2)
  have hZ_ : SmZ (ud (ud (ud (ud (ud f 16 (f 16 + 1)) (cA c + 3) 1) (cA c + 4) x) (cA c + 5) y) (cA c + 6) 1) := by
    intro j u0
    rw [ud_ne (by omega), ud_ne (by omega), ud_ne (by omega), ud_ne (by omega), ud_ne (by omega)]
    exact h.Z j u0
  exact ⟨hA_, hT_, hL_, hE_, hP_, hO_, hC_, hM_, hV_, hW_, hJ_, hH_, hS_, hZ_⟩
set_option maxHeartbeats 4000000 in
theorem sm_lookS {c : Int} (hc : 0 ≤ c ∧ c < 6) {r x y : Int} (hr : 0 ≤ r ∧ r < 3) (hh : 0 ≤ g (hA c + 1)) (h : Sm0 f g) (hI : IM B g) : Sm0 (ud (ud (ud (ud (ud f (33 + r) (f (33 + r) + 1)) (cA c + 3) 1) (cA c + 4) x) (cA c + 5) y) (cA c + 6) 0) (ud (ud (ud (ud (ud g (hA c + 3) 1) (13 + r) (g (13 + r) + 1)) (hA c + 5) y) (hA c + 4) x) (hA c + 6) 0) := by
  have pc1 := cA_b hc
  have pc2 := hA_b hc
  have pc3 := h.H c hc
  have pr := h.O r hr
  have hA_ : SmA (ud (ud (ud (ud (ud f (33 + r) (f (33 + r) + 1)) (cA c + 3) 1) (cA c + 4) x) (cA c + 5) y) (cA c + 6) 0) (ud (ud (ud (ud (ud g (hA c + 3) 1) (13 + r) (g (13 + r) + 1)) (hA c + 5) y) (hA c + 4) x) (hA c + 6) 0) := by
    have q := h.A
    unfold SmA at q
    refine ⟨?_, ?_, ?_⟩
    · rw [ud_ne (by omega), ud_ne (by omega), ud_ne (by omega), ud_ne (by omega), ud_ne (by omega), ud_ne (by omega), ud_ne (by omega), ud_ne (by omega), ud_ne (by omega), ud_ne (by omega)] <;> omega
    · rw [ud_ne (by omega), ud_ne (by omega), ud_ne (by omega), ud_ne (by omega), ud_ne (by omega), ud_ne (by omega), ud_ne (by omega), ud_ne (by omega), ud_ne (by omega), ud_ne (by omega)] <;> omega
    · rw [ud_ne (by omega), ud_ne (by omega), ud_ne (by omega), ud_ne (by omega), ud_ne (by omega), ud_ne (by omega), ud_ne (by omega), ud_ne (by omega), ud_ne (by omega), ud_ne (by omega)] <;> omega
  have hT_ : SmT (ud (ud (ud (ud (ud f (33 + r) (f (33 + r) + 1)) (cA c + 3) 1) (cA c + 4) x) (cA c + 5) y) (cA c + 6) 0) (ud (ud (ud (ud (ud g (hA c + 3) 1) (13 + r) (g (13 + r) + 1)) (hA c + 5) y) (hA c + 4) x) (hA c + 6) 0) := by
    intro i u0
    rw [ud_ne (by omega), ud_ne (by omega), ud_ne (by omega), ud_ne (by omega), ud_ne (by omega), ud_ne (by omega), ud_ne (by omega), ud_ne (by omega), ud_ne (by omega), ud_ne (by omega)]
    exact h.T i u0
  have hL_ : SmL (ud (ud (ud (ud (ud f (33 + r) (f (33 + r) + 1)) (cA c + 3) 1) (cA c + 4) x) (cA c + 5) y) (cA c + 6) 0) (ud (ud (ud (ud (ud g (hA c + 3) 1) (13 + r) (g (13 + r) + 1)) (hA c + 5) y) (hA c + 4) x) (hA c + 6) 0) := by
    intro i u0
    rw [ud_ne (by omega), ud_ne (by omega), ud_ne (by omega), ud_ne (by omega), ud_ne (by omega), ud_ne (by omega), ud_ne (by omega), ud_ne (by omega), ud_ne (by omega), ud_ne (by omega)]
    exact h.L i u0
  have hE_ : SmE (ud (ud (ud (ud (ud f (33 + r) (f (33 + r) + 1)) (cA c + 3) 1) (cA c + 4) x) (cA c + 5) y) (cA c + 6) 0) (ud (ud (ud (ud (ud g (hA c + 3) 1) (13 + r) (g (13 + r) + 1)) (hA c + 5) y) (hA c + 4) x) (hA c + 6) 0) := by
    intro k_ u0
    rw [ud_ne (by omega), ud_ne (by omega), ud_ne (by omega), ud_ne (by omega), ud_ne (by omega), ud_ne (by omega), ud_ne (by omega), ud_ne (by omega), ud_ne (by omega), ud_ne (by omega)]
    exact h.E k_ u0
  have hP_ : SmP (ud (ud (ud (ud (ud f (33 + r) (f (33 + r) + 1)) (cA c + 3) 1) (cA c + 4) x) (cA c + 5) y) (cA c + 6) 0) (ud (ud (ud (ud (ud g (hA c + 3) 1) (13 + r) (g (13 + r) + 1)) (hA c + 5) y) (hA c + 4) x) (hA c + 6) 0) := by
    intro r_ u0
    rw [ud_ne (by omega), ud_ne (by omega), ud_ne (by omega), ud_ne (by omega), ud_ne (by omega), ud_ne (by omega), ud_ne (by omega), ud_ne (by omega), ud_ne (by omega), ud_ne (by omega)]
    exact h.P r_ u0
  have hO_ : SmO (ud (ud (ud (ud (ud f (33 + r) (f (33 + r) + 1)) (cA c + 3) 1) (cA c + 4) x) (cA c + 5) y) (cA c + 6) 0) (ud (ud (ud (ud (ud g (hA c + 3) 1) (13 + r) (g (13 + r) + 1)) (hA c + 5) y) (hA c + 4) x) (hA c + 6) 0) := by
    intro r_ u0
    rcases Decidable.em (r = r_) with e | e
    · subst e
      have q := h.O r u0
      rw [ud_ne (by omega), ud_ne (by omega), ud_ne (by omega), ud_ne (by omega), ud_eq, ud_ne (by omega), ud_ne (by omega), ud_ne (by omega), ud_eq] <;> (first | exact q | omega | (simp only [Int.reduceAdd, Int.add_zero] at *; omega))
    · skip
      rw [ud_ne (by omega), ud_ne (by omega), ud_ne (by omega), ud_ne (by omega), ud_ne (by omega), ud_ne (by omega), ud_ne (by omega), ud_ne (by omega), ud_ne (by omega), ud_ne (by omega)]
      exact h.O r_ u0
  have hC_ : SmC (ud (ud (ud (ud (ud f (33 + r) (f (33 + r) + 1)) (cA c + 3) 1) (cA c + 4) x) (cA c + 5) y) (cA c + 6) 0) (ud (ud (ud (ud (ud g (hA c + 3) 1) (13 + r) (g (13 + r) + 1)) (hA c + 5) y) (hA c + 4) x) (hA c + 6) 0) := by
    intro a_ u0
    rw [ud_ne (by omega), ud_ne (by omega), ud_ne (by omega), ud_ne (by omega), ud_ne (by omega), ud_ne (by omega), ud_ne (by omega), ud_ne (by omega), ud_ne (by omega), ud_ne (by omega)]
    exact h.C a_ u0
  have hM_ : SmM (ud (ud (ud (ud (ud f (33 + r) (f (33 + r) + 1)) (cA c + 3) 1) (cA c + 4) x) (cA c + 5) y) (cA c + 6) 0) (ud (ud (ud (ud (ud g (hA c + 3) 1) (13 + r) (g (13 + r) + 1)) (hA c + 5) y) (hA c + 4) x) (hA c + 6) 0) := by
    intro r_ k_ u0 u1
    rw [ud_ne (by omega), ud_ne (by omega), ud_ne (by omega), ud_ne (by omega), ud_ne (by omega), ud_ne (by omega), ud_ne (by omega), ud_ne (by omega), ud_ne (by omega), ud_ne (by omega)]
    exact h.M r_ k_ u0 u1
  have hJ_ : SmJ (ud (ud (ud (ud (ud f (33 + r) (f (33 + r) + 1)) (cA c + 3) 1) (cA c + 4) x) (cA c + 5) y) (cA c + 6) 0) (ud (ud (ud (ud (ud g (hA c + 3) 1) (13 + r) (g (13 + r) + 1)) (hA c + 5) y) (hA c + 4) x) (hA c + 6) 0) := by
    intro n i u0 u1
    have hj := jA_b u0
    rw [ud_ne (by omega), ud_ne (by omega), ud_ne (by omega), ud_ne (by omega), ud_ne (by omega), ud_ne (by omega), ud_ne (by omega), ud_ne (by omega), ud_ne (by omega), ud_ne (by omega)]
    exact h.J n i u0 u1
  have hK : ∀ n, 1 ≤ n ∧ n ≤ 60 → (ud (ud (ud (ud (ud g (hA c + 3) 1) (13 + r) (g (13 + r) + 1)) (hA c + 5) y) (hA c + 4) x) (hA c + 6) 0) (36 + 3 * (n - 1)) = g (36 + 3 * (n - 1)) := by
    intro n u0
    rw [ud_ne (by omega), ud_ne (by omega), ud_ne (by omega), ud_ne (by omega), ud_ne (by omega)]
  have hV_ : SmV (ud (ud (ud (ud (ud f (33 + r) (f (33 + r) + 1)) (cA c + 3) 1) (cA c + 4) x) (cA c + 5) y) (cA c + 6) 0) (ud (ud (ud (ud (ud g (hA c + 3) 1) (13 + r) (g (13 + r) + 1)) (hA c + 5) y) (hA c + 4) x) (hA c + 6) 0) := by
    intro r_ k_ u0 u1
    rw [lastI_cong hK (by rw [ud_ne (by omega), ud_ne (by omega), ud_ne (by omega), ud_ne (by omega), ud_ne (by omega)]; exact (hI.n60 (by omega)).2)]
    rw [ud_ne (by omega), ud_ne (by omega), ud_ne (by omega), ud_ne (by omega), ud_ne (by omega), ud_ne (by omega), ud_ne (by omega), ud_ne (by omega), ud_ne (by omega), ud_ne (by omega)]
    exact h.V r_ k_ u0 u1
  have hW_ : SmW (ud (ud (ud (ud (ud f (33 + r) (f (33 + r) + 1)) (cA c + 3) 1) (cA c + 4) x) (cA c + 5) y) (cA c + 6) 0) (ud (ud (ud (ud (ud g (hA c + 3) 1) (13 + r) (g (13 + r) + 1)) (hA c + 5) y) (hA c + 4) x) (hA c + 6) 0) := by
    intro k_ u0
    rw [lastI_cong hK (by rw [ud_ne (by omega), ud_ne (by omega), ud_ne (by omega), ud_ne (by omega), ud_ne (by omega)]; exact (hI.n60 (by omega)).2)]
    rw [ud_ne (by omega), ud_ne (by omega), ud_ne (by omega), ud_ne (by omega), ud_ne (by omega), ud_ne (by omega), ud_ne (by omega), ud_ne (by omega), ud_ne (by omega), ud_ne (by omega)]
    exact h.W k_ u0
  have hH_ : SmH (ud (ud (ud (ud (ud f (33 + r) (f (33 + r) + 1)) (cA c + 3) 1) (cA c + 4) x) (cA c + 5) y) (cA c + 6) 0) (ud (ud (ud (ud (ud g (hA c + 3) 1) (13 + r) (g (13 + r) + 1)) (hA c + 5) y) (hA c + 4) x) (hA c + 6) 0) := by
    intro c_ u0
    rcases Decidable.em (c = c_) with e | e
    · subst e
      have q := h.H c u0
      have hc1 := cA_b (c := c) u0
      have hc2 := hA_b (c := c) u0
      have w1 : (ud (ud (ud (ud (ud f (33 + r) (f (33 + r) + 1)) (cA c + 3) 1) (cA c + 4) x) (cA c + 5) y) (cA c + 6) 0) (cA c + 7) = f (cA c + 7) := by rw [ud_ne (by omega), ud_ne (by omega), ud_ne (by omega), ud_ne (by omega), ud_ne (by omega)]
      have w2 : (ud (ud (ud (ud (ud f (33 + r) (f (33 + r) + 1)) (cA c + 3) 1) (cA c + 4) x) (cA c + 5) y) (cA c + 6) 0) (cA c + 1) = f (cA c + 1) := by rw [ud_ne (by omega), ud_ne (by omega), ud_ne (by omega), ud_ne (by omega), ud_ne (by omega)]
      have w3 : (ud (ud (ud (ud (ud f (33 + r) (f (33 + r) + 1)) (cA c + 3) 1) (cA c + 4) x) (cA c + 5) y) (cA c + 6) 0) (cA c + 3) = 1 := by rw [ud_ne (by omega), ud_ne (by omega), ud_ne (by omega), ud_eq]
      have w4 : (ud (ud (ud (ud (ud g (hA c + 3) 1) (13 + r) (g (13 + r) + 1)) (hA c + 5) y) (hA c + 4) x) (hA c + 6) 0) (hA c + 1) = g (hA c + 1) := by rw [ud_ne (by omega), ud_ne (by omega), ud_ne (by omega), ud_ne (by omega), ud_ne (by omega)]
      have w5 : (ud (ud (ud (ud (ud g (hA c + 3) 1) (13 + r) (g (13 + r) + 1)) (hA c + 5) y) (hA c + 4) x) (hA c + 6) 0) (hA c + 3) = 1 := by rw [ud_ne (by omega), ud_ne (by omega), ud_ne (by omega), ud_ne (by omega), ud_eq]
      have x0 : (ud (ud (ud (ud (ud f (33 + r) (f (33 + r) + 1)) (cA c + 3) 1) (cA c + 4) x) (cA c + 5) y) (cA c + 6) 0) (cA c + 0) = (ud (ud (ud (ud (ud g (hA c + 3) 1) (13 + r) (g (13 + r) + 1)) (hA c + 5) y) (hA c + 4) x) (hA c + 6) 0) (hA c + 0) := by
        rw [ud_ne (by omega), ud_ne (by omega), ud_ne (by omega), ud_ne (by omega), ud_ne (by omega), ud_ne (by omega), ud_ne (by omega), ud_ne (by omega), ud_ne (by omega), ud_ne (by omega)] <;> (first | omega | exact q.1)
      have x1 : (ud (ud (ud (ud (ud f (33 + r) (f (33 + r) + 1)) (cA c + 3) 1) (cA c + 4) x) (cA c + 5) y) (cA c + 6) 0) (cA c + 2) = (ud (ud (ud (ud (ud g (hA c + 3) 1) (13 + r) (g (13 + r) + 1)) (hA c + 5) y) (hA c + 4) x) (hA c + 6) 0) (hA c + 2) := by
        rw [ud_ne (by omega), ud_ne (by omega), ud_ne (by omega), ud_ne (by omega), ud_ne (by omega), ud_ne (by omega), ud_ne (by omega), ud_ne (by omega), ud_ne (by omega), ud_ne (by omega)] <;> (first | omega | exact q.2.1)
      have x2 : (ud (ud (ud (ud (ud f (33 + r) (f (33 + r) + 1)) (cA c + 3) 1) (cA c + 4) x) (cA c + 5) y) (cA c + 6) 0) (cA c + 4) = (ud (ud (ud (ud (ud g (hA c + 3) 1) (13 + r) (g (13 + r) + 1)) (hA c + 5) y) (hA c + 4) x) (hA c + 6) 0) (hA c + 4) := by
        rw [ud_ne (by omega), ud_ne (by omega), ud_eq, ud_ne (by omega), ud_eq] <;> (first | omega | exact q.2.2.1)
      have x3 : (ud (ud (ud (ud (ud f (33 + r) (f (33 + r) + 1)) (cA c + 3) 1) (cA c + 4) x) (cA c + 5) y) (cA c + 6) 0) (cA c + 5) = (ud (ud (ud (ud (ud g (hA c + 3) 1) (13 + r) (g (13 + r) + 1)) (hA c + 5) y) (hA c + 4) x) (hA c + 6) 0) (hA c + 5) := by
        rw [ud_ne (by omega), ud_eq, ud_ne (by omega), ud_ne (by omega), ud_eq] <;> (first | omega | exact q.2.2.2.1)
      have x4 : (ud (ud (ud (ud (ud f (33 + r) (f (33 + r) + 1)) (cA c + 3) 1) (cA c + 4) x) (cA c + 5) y) (cA c + 6) 0) (cA c + 6) = (ud (ud (ud (ud (ud g (hA c + 3) 1) (13 + r) (g (13 + r) + 1)) (hA c + 5) y) (hA c + 4) x) (hA c + 6) 0) (hA c + 6) := by
        rw [ud_eq, ud_eq] <;> (first | omega | exact q.2.2.2.2.1)
      refine ⟨x0, x1, x2, x3, x4, ?_, ?_⟩
      · rw [w2]; omega
      · rw [w1, w2, w3, w4, w5]; omega
    · have d1 : cA c_ + 8 ≤ cA c ∨ cA c + 8 ≤ cA c_ := by unfold cA; omega
      have d2 : hA c_ + 7 ≤ hA c ∨ hA c + 7 ≤ hA c_ := by unfold hA; omega
      have q := h.H c_ u0
      have hc1 := cA_b (c := c_) u0
      have hc2 := hA_b (c := c_) u0
      have w1 : (ud (ud (ud (ud (ud f (33 + r) (f (33 + r) + 1)) (cA c + 3) 1) (cA c + 4) x) (cA c + 5) y) (cA c + 6) 0) (cA c_ + 7) = f (cA c_ + 7) := by rw [ud_ne (by omega), ud_ne (by omega), ud_ne (by omega), ud_ne (by omega), ud_ne (by omega)]
      have w2 : (ud (ud (ud (ud (ud f (33 + r) (f (33 + r) + 1)) (cA c + 3) 1) (cA c + 4) x) (cA c + 5) y) (cA c + 6) 0) (cA c_ + 1) = f (cA c_ + 1) := by rw [ud_ne (by omega), ud_ne (by omega), ud_ne (by omega), ud_ne (by omega), ud_ne (by omega)]
      have w3 : (ud (ud (ud (ud (ud f (33 + r) (f (33 + r) + 1)) (cA c + 3) 1) (cA c + 4) x) (cA c + 5) y) (cA c + 6) 0) (cA c_ + 3) = f (cA c_ + 3) := by rw [ud_ne (by omega), ud_ne (by omega), ud_ne (by omega), ud_ne (by omega), ud_ne (by omega)]
      have w4 : (ud (ud (ud (ud (ud g (hA c + 3) 1) (13 + r) (g (13 + r) + 1)) (hA c + 5) y) (hA c + 4) x) (hA c + 6) 0) (hA c_ + 1) = g (hA c_ + 1) := by rw [ud_ne (by omega), ud_ne (by omega), ud_ne (by omega), ud_ne (by omega), ud_ne (by omega)]
      have w5 : (ud (ud (ud (ud (ud g (hA c + 3) 1) (13 + r) (g (13 + r) + 1)) (hA c + 5) y) (hA c + 4) x) (hA c + 6) 0) (hA c_ + 3) = g (hA c_ + 3) := by rw [ud_ne (by omega), ud_ne (by omega), ud_ne (by omega), ud_ne (by omega), ud_ne (by omega)]
      have x0 : (ud (ud (ud (ud (ud f (33 + r) (f (33 + r) + 1)) (cA c + 3) 1) (cA c + 4) x) (cA c + 5) y) (cA c + 6) 0) (cA c_ + 0) = (ud (ud (ud (ud (ud g (hA c + 3) 1) (13 + r) (g (13 + r) + 1)) (hA c + 5) y) (hA c + 4) x) (hA c + 6) 0) (hA c_ + 0) := by
        rw [ud_ne (by omega), ud_ne (by omega), ud_ne (by omega), ud_ne (by omega), ud_ne (by omega), ud_ne (by omega), ud_ne (by omega), ud_ne (by omega), ud_ne (by omega), ud_ne (by omega)] <;> (first | omega | exact q.1)
      have x1 : (ud (ud (ud (ud (ud f (33 + r) (f (33 + r) + 1)) (cA c + 3) 1) (cA c + 4) x) (cA c + 5) y) (cA c + 6) 0) (cA c_ + 2) = (ud (ud (ud (ud (ud g (hA c + 3) 1) (13 + r) (g (13 + r) + 1)) (hA c + 5) y) (hA c + 4) x) (hA c + 6) 0) (hA c_ + 2) := by
        rw [ud_ne (by omega), ud_ne (by omega), ud_ne (by omega), ud_ne (by omega), ud_ne (by omega), ud_ne (by omega), ud_ne (by omega), ud_ne (by omega), ud_ne (by omega), ud_ne (by omega)] <;> (first | omega | exact q.2.1)
      have x2 : (ud (ud (ud (ud (ud f (33 + r) (f (33 + r) + 1)) (cA c + 3) 1) (cA c + 4) x) (cA c + 5) y) (cA c + 6) 0) (cA c_ + 4) = (ud (ud (ud (ud (ud g (hA c + 3) 1) (13 + r) (g (13 + r) + 1)) (hA c + 5) y) (hA c + 4) x) (hA c + 6) 0) (hA c_ + 4) := by
        rw [ud_ne (by omega), ud_ne (by omega), ud_ne (by omega), ud_ne (by omega), ud_ne (by omega), ud_ne (by omega), ud_ne (by omega), ud_ne (by omega), ud_ne (by omega), ud_ne (by omega)] <;> (first | omega | exact q.2.2.1)
      have x3 : (ud (ud (ud (ud (ud f (33 + r) (f (33 + r) + 1)) (cA c + 3) 1) (cA c + 4) x) (cA c + 5) y) (cA c + 6) 0) (cA c_ + 5) = (ud (ud (ud (ud (ud g (hA c + 3) 1) (13 + r) (g (13 + r) + 1)) (hA c + 5) y) (hA c + 4) x) (hA c + 6) 0) (hA c_ + 5) := by
        rw [ud_ne (by omega), ud_ne (by omega), ud_ne (by omega), ud_ne (by omega), ud_ne (by omega), ud_ne (by omega), ud_ne (by omega), ud_ne (by omega), ud_ne (by omega), ud_ne (by omega)] <;> (first | omega | exact q.2.2.2.1)
      have x4 : (ud (ud (ud (ud (ud f (33 + r) (f (33 + r) + 1)) (cA c + 3) 1) (cA c + 4) x) (cA c + 5) y) (cA c + 6) 0) (cA c_ + 6) = (ud (ud (ud (ud (ud g (hA c + 3) 1) (13 + r) (g (13 + r) + 1)) (hA c + 5) y) (hA c + 4) x) (hA c + 6) 0) (hA c_ + 6) := by
        rw [ud_ne (by omega), ud_ne (by omega), ud_ne (by omega), ud_ne (by omega), ud_ne (by omega), ud_ne (by omega), ud_ne (by omega), ud_ne (by omega), ud_ne (by omega), ud_ne (by omega)] <;> (first | omega | exact q.2.2.2.2.1)
      refine ⟨x0, x1, x2, x3, x4, ?_, ?_⟩
      · rw [w2]; omega
      · rw [w1, w2, w3, w4, w5]; omega
  have hS_ : SmS (ud (ud (ud (ud (ud f (33 + r) (f (33 + r) + 1)) (cA c + 3) 1) (cA c + 4) x) (cA c + 5) y) (cA c + 6) 0) (ud (ud (ud (ud (ud g (hA c + 3) 1) (13 + r) (g (13 + r) + 1)) (hA c + 5) y) (hA c + 4) x) (hA c + 6) 0) := by
    intro a_ k_ u0 u1
    have q := h.S a_ k_ u0 u1
    have b1 := sA_b u0 u1
    have b2 := eA_b u0 u1
    have b3 := oA_b u0 u1
    have b4 := lA_b u0 u1
    have b5 := dA_b u0 u1
    refine ⟨?_, ?_, ?_, ?_, ?_, ?_, ?_, ?_, ?_, ?_, ?_, ?_⟩
    · rw [ud_ne (by omega), ud_ne (by omega), ud_ne (by omega), ud_ne (by omega), ud_ne (by omega), ud_ne (by omega), ud_ne (by omega), ud_ne (by omega), ud_ne (by omega), ud_ne (by omega)] <;> (exact q.1)
    · rw [ud_ne (by omega), ud_ne (by omega), ud_ne (by omega), ud_ne (by omega), ud_ne (by omega), ud_ne (by omega), ud_ne (by omega), ud_ne (by omega), ud_ne (by omega), ud_ne (by omega)] <;> (exact q.2.1)
    · rw [ud_ne (by omega), ud_ne (by omega), ud_ne (by omega), ud_ne (by omega), ud_ne (by omega), ud_ne (by omega), ud_ne (by omega), ud_ne (by omega), ud_ne (by omega), ud_ne (by omega)] <;> (exact q.2.2.1)
    · rw [ud_ne (by omega), ud_ne (by omega), ud_ne (by omega), ud_ne (by omega), ud_ne (by omega), ud_ne (by omega), ud_ne (by omega), ud_ne (by omega), ud_ne (by omega), ud_ne (by omega)] <;> (exact q.2.2.2.1)
    · rw [ud_ne (by omega), ud_ne (by omega), ud_ne (by omega), ud_ne (by omega), ud_ne (by omega), ud_ne (by omega), ud_ne (by omega), ud_ne (by omega), ud_ne (by omega), ud_ne (by omega)] <;> (exact q.2.2.2.2.1)
    · rw [ud_ne (by omega), ud_ne (by omega), ud_ne (by omega), ud_ne (by omega), ud_ne (by omega), ud_ne (by omega), ud_ne (by omega), ud_ne (by omega), ud_ne (by omega), ud_ne (by omega), ud_ne (by omega), ud_ne (by omega), ud_ne (by omega), ud_ne (by omega), ud_ne (by omega)] <;> (exact q.2.2.2.2.2.1)
    · rw [ud_ne (by omega), ud_ne (by omega), ud_ne (by omega), ud_ne (by omega), ud_ne (by omega), ud_ne (by omega), ud_ne (by omega), ud_ne (by omega), ud_ne (by omega), ud_ne (by omega)] <;> (exact q.2.2.2.2.2.2.1)
    · rw [ud_ne (by omega), ud_ne (by omega), ud_ne (by omega), ud_ne (by omega), ud_ne (by omega), ud_ne (by omega), ud_ne (by omega), ud_ne (by omega), ud_ne (by omega), ud_ne (by omega), ud_ne (by omega), ud_ne (by omega), ud_ne (by omega), ud_ne (by omega), ud_ne (by omega)] <;> (exact q.2.2.2.2.2.2.2.1)
    · rw [ud_ne (by omega), ud_ne (by omega), ud_ne (by omega), ud_ne (by omega), ud_ne (by omega), ud_ne (by omega), ud_ne (by omega), ud_ne (by omega), ud_ne (by omega), ud_ne (by omega)] <;> (exact q.2.2.2.2.2.2.2.2.1)
    · rw [ud_ne (by omega), ud_ne (by omega), ud_ne (by omega), ud_ne (by omega), ud_ne (by omega), ud_ne (by omega), ud_ne (by omega), ud_ne (by omega), ud_ne (by omega), ud_ne (by omega)] <;> (exact q.2.2.2.2.2.2.2.2.2.1)
    · rw [ud_ne (by omega), ud_ne (by omega), ud_ne (by omega), ud_ne (by omega), ud_ne (by omega), ud_ne (by omega), ud_ne (by omega), ud_ne (by omega), ud_ne (by omega), ud_ne (by omega), ud_ne (by omega), ud_ne (by omega), ud_ne (by omega), ud_ne (by omega), ud_ne (by omega)] <;> (exact q.2.2.2.2.2.2.2.2.2.2.1)
    · rw [ud_ne (by omega), ud_ne (by omega), ud_ne (by omega), ud_ne (by omega), ud_ne (by omega), ud_ne (by omega), ud_ne (by omega), ud_ne (by omega), ud_ne (by omega), ud_ne (by omega), ud_ne (by omega), ud_ne (by omega), ud_ne (by omega), ud_ne (by omega), ud_ne (by omega)] <;> (exact q.2.2.2.2.2.2.2.2.2.2.2)
  have hZ_ : SmZ (ud (ud (ud (ud (ud f (33 + r) (f (33 + r) + 1)) (cA c + 3) 1) (cA c + 4) x) (cA c + 5) y) (cA c + 6) 0) := by
    intro j u0
    rw [ud_ne (by omega), ud_ne (by omega), ud_ne (by omega), ud_ne (by omega), ud_ne (by omega)]
    exact h.Z j u0
  exact ⟨hA_, hT_, hL_, hE_, hP_, hO_, hC_, hM_, hV_, hW_, hJ_, hH_, hS_, hZ_⟩
set_option maxHeartbeats 4000000 in
theorem sm_refuse {c : Int} (hc : 0 ≤ c ∧ c < 6)  (h : Sm0 f g) (hI : IM B g) : Sm0 (ud (ud (ud f (cA c + 7) 0) (cA c + 3) 0) 15 (f 15 + 1)) (ud (ud g (hA c + 1) (-1)) 21 (g 21 + 1)) := by
  have pc1 := cA_b hc
  have pc2 := hA_b hc
  have pc3 := h.H c hc
  have l5 : f 15 = g 21 := h.L 5 (by omega)
  have hA_ : SmA (ud (ud (ud f (cA c + 7) 0) (cA c + 3) 0) 15 (f 15 + 1)) (ud (ud g (hA c + 1) (-1)) 21 (g 21 + 1)) := by
    have q := h.A
    unfold SmA at q
    refine ⟨?_, ?_, ?_⟩
    · rw [ud_ne (by omega), ud_ne (by omega), ud_ne (by omega), ud_ne (by omega), ud_ne (by omega)] <;> omega
    · rw [ud_ne (by omega), ud_ne (by omega), ud_ne (by omega), ud_ne (by omega), ud_ne (by omega)] <;> omega
    · rw [ud_ne (by omega), ud_ne (by omega), ud_ne (by omega), ud_ne (by omega), ud_ne (by omega)] <;> omega
  have hT_ : SmT (ud (ud (ud f (cA c + 7) 0) (cA c + 3) 0) 15 (f 15 + 1)) (ud (ud g (hA c + 1) (-1)) 21 (g 21 + 1)) := by
    intro i u0
    rw [ud_ne (by omega), ud_ne (by omega), ud_ne (by omega), ud_ne (by omega), ud_ne (by omega)]
    exact h.T i u0
  have hL_ : SmL (ud (ud (ud f (cA c + 7) 0) (cA c + 3) 0) 15 (f 15 + 1)) (ud (ud g (hA c + 1) (-1)) 21 (g 21 + 1)) := by
    intro i u0
    rcases Decidable.em (5 = i) with e | e
    · subst e
      have q := h.L 5 u0
      rw [ud_at (by omega), ud_at (by omega)] <;> (first | exact q | omega | (simp only [Int.reduceAdd, Int.add_zero] at *; omega))
    · skip
      rw [ud_ne (by omega), ud_ne (by omega), ud_ne (by omega), ud_ne (by omega), ud_ne (by omega)]
      exact h.L i u0
  have hE_ : SmE (ud (ud (ud f (cA c + 7) 0) (cA c + 3) 0) 15 (f 15 + 1)) (ud (ud g (hA c + 1) (-1)) 21 (g 21 + 1)) := by
    intro k_ u0
    rw [ud_ne (by omega), ud_ne (by omega), ud_ne (by omega), ud_ne (by omega), ud_ne (by omega)]
    exact h.E k_ u0
  have hP_ : SmP (ud (ud (ud f (cA c + 7) 0) (cA c + 3) 0) 15 (f 15 + 1)) (ud (ud g (hA c + 1) (-1)) 21 (g 21 + 1)) := by
    intro r_ u0
    rw [ud_ne (by omega), ud_ne (by omega), ud_ne (by omega), ud_ne (by omega), ud_ne (by omega)]
    exact h.P r_ u0
  have hO_ : SmO (ud (ud (ud f (cA c + 7) 0) (cA c + 3) 0) 15 (f 15 + 1)) (ud (ud g (hA c + 1) (-1)) 21 (g 21 + 1)) := by
    intro r_ u0
    rw [ud_ne (by omega), ud_ne (by omega), ud_ne (by omega), ud_ne (by omega), ud_ne (by omega)]
    exact h.O r_ u0
  have hC_ : SmC (ud (ud (ud f (cA c + 7) 0) (cA c + 3) 0) 15 (f 15 + 1)) (ud (ud g (hA c + 1) (-1)) 21 (g 21 + 1)) := by
    intro a_ u0
    rw [ud_ne (by omega), ud_ne (by omega), ud_ne (by omega), ud_ne (by omega), ud_ne (by omega)]
    exact h.C a_ u0
  have hM_ : SmM (ud (ud (ud f (cA c + 7) 0) (cA c + 3) 0) 15 (f 15 + 1)) (ud (ud g (hA c + 1) (-1)) 21 (g 21 + 1)) := by
    intro r_ k_ u0 u1
    rw [ud_ne (by omega), ud_ne (by omega), ud_ne (by omega), ud_ne (by omega), ud_ne (by omega)]
    exact h.M r_ k_ u0 u1
  have hJ_ : SmJ (ud (ud (ud f (cA c + 7) 0) (cA c + 3) 0) 15 (f 15 + 1)) (ud (ud g (hA c + 1) (-1)) 21 (g 21 + 1)) := by
    intro n i u0 u1
    have hj := jA_b u0
    rw [ud_ne (by omega), ud_ne (by omega), ud_ne (by omega), ud_ne (by omega), ud_ne (by omega)]
    exact h.J n i u0 u1
  have hK : ∀ n, 1 ≤ n ∧ n ≤ 60 → (ud (ud g (hA c + 1) (-1)) 21 (g 21 + 1)) (36 + 3 * (n - 1)) = g (36 + 3 * (n - 1)) := by
    intro n u0
    rw [ud_ne (by omega), ud_ne (by omega)]
  have hV_ : SmV (ud (ud (ud f (cA c + 7) 0) (cA c + 3) 0) 15 (f 15 + 1)) (ud (ud g (hA c + 1) (-1)) 21 (g 21 + 1)) := by
    intro r_ k_ u0 u1
    rw [lastI_cong hK (by rw [ud_ne (by omega), ud_ne (by omega)]; exact (hI.n60 (by omega)).2)]
    rw [ud_ne (by omega), ud_ne (by omega), ud_ne (by omega), ud_ne (by omega), ud_ne (by omega)]
    exact h.V r_ k_ u0 u1
  have hW_ : SmW (ud (ud (ud f (cA c + 7) 0) (cA c + 3) 0) 15 (f 15 + 1)) (ud (ud g (hA c + 1) (-1)) 21 (g 21 + 1)) := by
    intro k_ u0
    rw [lastI_cong hK (by rw [ud_ne (by omega), ud_ne (by omega)]; exact (hI.n60 (by omega)).2)]
    rw [ud_ne (by omega), ud_ne (by omega), ud_ne (by omega), ud_ne (by omega), ud_ne (by omega)]
    exact h.W k_ u0
  have hH_ : SmH (ud (ud (ud f (cA c + 7) 0) (cA c + 3) 0) 15 (f 15 + 1)) (ud (ud g (hA c + 1) (-1)) 21 (g 21 + 1)) := by
    intro c_ u0
    rcases Decidable.em (c = c_) with e | e
    · subst e
      have q := h.H c u0
      have hc1 := cA_b (c := c) u0
      have hc2 := hA_b (c := c) u0
      have w1 : (ud (ud (ud f (cA c + 7) 0) (cA c + 3) 0) 15 (f 15 + 1)) (cA c + 7) = 0 := by rw [ud_ne (by omega), ud_ne (by omega), ud_eq]
      have w2 : (ud (ud (ud f (cA c + 7) 0) (cA c + 3) 0) 15 (f 15 + 1)) (cA c + 1) = f (cA c + 1) := by rw [ud_ne (by omega), ud_ne (by omega), ud_ne (by omega)]
      have w3 : (ud (ud (ud f (cA c + 7) 0) (cA c + 3) 0) 15 (f 15 + 1)) (cA c + 3) = 0 := by rw [ud_ne (by omega), ud_eq]
      have w4 : (ud (ud g (hA c + 1) (-1)) 21 (g 21 + 1)) (hA c + 1) = -1 := by rw [ud_ne (by omega), ud_eq]
      have w5 : (ud (ud g (hA c + 1) (-1)) 21 (g 21 + 1)) (hA c + 3) = g (hA c + 3) := by rw [ud_ne (by omega), ud_ne (by omega)]
      have x0 : (ud (ud (ud f (cA c + 7) 0) (cA c + 3) 0) 15 (f 15 + 1)) (cA c + 0) = (ud (ud g (hA c + 1) (-1)) 21 (g 21 + 1)) (hA c + 0) := by
        rw [ud_ne (by omega), ud_ne (by omega), ud_ne (by omega), ud_ne (by omega), ud_ne (by omega)] <;> (first | omega | exact q.1)
      have x1 : (ud (ud (ud f (cA c + 7) 0) (cA c + 3) 0) 15 (f 15 + 1)) (cA c + 2) = (ud (ud g (hA c + 1) (-1)) 21 (g 21 + 1)) (hA c + 2) := by
        rw [ud_ne (by omega), ud_ne (by omega), ud_ne (by omega), ud_ne (by omega), ud_ne (by omega)] <;> (first | omega | exact q.2.1)
      have x2 : (ud (ud (ud f (cA c + 7) 0) (cA c + 3) 0) 15 (f 15 + 1)) (cA c + 4) = (ud (ud g (hA c + 1) (-1)) 21 (g 21 + 1)) (hA c + 4) := by
        rw [ud_ne (by omega), ud_ne (by omega), ud_ne (by omega), ud_ne (by omega), ud_ne (by omega)] <;> (first | omega | exact q.2.2.1)
      have x3 : (ud (ud (ud f (cA c + 7) 0) (cA c + 3) 0) 15 (f 15 + 1)) (cA c + 5) = (ud (ud g (hA c + 1) (-1)) 21 (g 21 + 1)) (hA c + 5) := by
        rw [ud_ne (by omega), ud_ne (by omega), ud_ne (by omega), ud_ne (by omega), ud_ne (by omega)] <;> (first | omega | exact q.2.2.2.1)
      have x4 : (ud (ud (ud f (cA c + 7) 0) (cA c + 3) 0) 15 (f 15 + 1)) (cA c + 6) = (ud (ud g (hA c + 1) (-1)) 21 (g 21 + 1)) (hA c + 6) := by
        rw [ud_ne (by omega), ud_ne (by omega), ud_ne (by omega), ud_ne (by omega), ud_ne (by omega)] <;> (first | omega | exact q.2.2.2.2.1)
      refine ⟨x0, x1, x2, x3, x4, ?_, ?_⟩
      · rw [w2]; omega
      · rw [w1, w2, w3, w4, w5]; omega
    · have d1 : cA c_ + 8 ≤ cA c ∨ cA c + 8 ≤ cA c_ := by unfold cA; omega
      have d2 : hA c_ + 7 ≤ hA c ∨ hA c + 7 ≤ hA c_ := by unfold hA; omega
      have q := h.H c_ u0
      have hc1 := cA_b (c := c_) u0
      have hc2 := hA_b (c := c_) u0
      have w1 : (ud (ud (ud f (cA c + 7) 0) (cA c + 3) 0) 15 (f 15 + 1)) (cA c_ + 7) = f (cA c_ + 7) := by rw [ud_ne (by omega), ud_ne (by omega), ud_ne (by omega)]
      have w2 : (ud (ud (ud f (cA c + 7) 0) (cA c + 3) 0) 15 (f 15 + 1)) (cA c_ + 1) = f (cA c_ + 1) := by rw [ud_ne (by omega), ud_ne (by omega), ud_ne (by omega)]
      have w3 : (ud (ud (ud f (cA c + 7) 0) (cA c + 3) 0) 15 (f 15 + 1)) (cA c_ + 3) = f (cA c_ + 3) := by rw [ud_ne (by omega), ud_ne (by omega), ud_ne (by omega)]
      have w4 : (ud (ud g (hA c + 1) (-1)) 21 (g 21 + 1)) (hA c_ + 1) = g (hA c_ + 1) := by rw [ud_ne (by omega), ud_ne (by omega)]
      have w5 : (ud (ud g (hA c + 1) (-1)) 21 (g 21 + 1)) (hA c_ + 3) = g (hA c_ + 3) := by rw [ud_ne (by omega), ud_ne (by omega)]
      have x0 : (ud (ud (ud f (cA c + 7) 0) (cA c + 3) 0) 15 (f 15 + 1)) (cA c_ + 0) = (ud (ud g (hA c + 1) (-1)) 21 (g 21 + 1)) (hA c_ + 0) := by
        rw [ud_ne (by omega), ud_ne (by omega), ud_ne (by omega), ud_ne (by omega), ud_ne (by omega)] <;> (first | omega | exact q.1)
      have x1 : (ud (ud (ud f (cA c + 7) 0) (cA c + 3) 0) 15 (f 15 + 1)) (cA c_ + 2) = (ud (ud g (hA c + 1) (-1)) 21 (g 21 + 1)) (hA c_ + 2) := by
        rw [ud_ne (by omega), ud_ne (by omega), ud_ne (by omega), ud_ne (by omega), ud_ne (by omega)] <;> (first | omega | exact q.2.1)
      have x2 : (ud (ud (ud f (cA c + 7) 0) (cA c + 3) 0) 15 (f 15 + 1)) (cA c_ + 4) = (ud (ud g (hA c + 1) (-1)) 21 (g 21 + 1)) (hA c_ + 4) := by
        rw [ud_ne (by omega), ud_ne (by omega), ud_ne (by omega), ud_ne (by omega), ud_ne (by omega)] <;> (first | omega | exact q.2.2.1)
      have x3 : (ud (ud (ud f (cA c + 7) 0) (cA c + 3) 0) 15 (f 15 + 1)) (cA c_ + 5) = (ud (ud g (hA c + 1) (-1)) 21 (g 21 + 1)) (hA c_ + 5) := by
        rw [ud_ne (by omega), ud_ne (by omega), ud_ne (by omega), ud_ne (by omega), ud_ne (by omega)] <;> (first | omega | exact q.2.2.2.1)
      have x4 : (ud (ud (ud f (cA c + 7) 0) (cA c + 3) 0) 15 (f 15 + 1)) (cA c_ + 6) = (ud (ud g (hA c + 1) (-1)) 21 (g 21 + 1)) (hA c_ + 6) := by
        rw [ud_ne (by omega), ud_ne (by omega), ud_ne (by omega), ud_ne (by omega), ud_ne (by omega)] <;> (first | omega | exact q.2.2.2.2.1)
      refine ⟨x0, x1, x2, x3, x4, ?_, ?_⟩
      · rw [w2]; omega
      · rw [w1, w2, w3, w4, w5]; omega
  have hS_ : SmS (ud (ud (ud f (cA c + 7) 0) (cA c + 3) 0) 15 (f 15 + 1)) (ud (ud g (hA c + 1) (-1)) 21 (g 21 + 1)) := by
    intro a_ k_ u0 u1
    have q := h.S a_ k_ u0 u1
    have b1 := sA_b u0 u1
    have b2 := eA_b u0 u1
    have b3 := oA_b u0 u1
    have b4 := lA_b u0 u1
    have b5 := dA_b u0 u1
    refine ⟨?_, ?_, ?_, ?_, ?_, ?_, ?_, ?_, ?_, ?_, ?_, ?_⟩
    · rw [ud_ne (by omega), ud_ne (by omega), ud_ne (by omega), ud_ne (by omega), ud_ne (by omega)] <;> (exact q.1)
    · rw [ud_ne (by omega), ud_ne (by omega), ud_ne (by omega), ud_ne (by omega), ud_ne (by omega)] <;> (exact q.2.1)
    · rw [ud_ne (by omega), ud_ne (by omega), ud_ne (by omega), ud_ne (by omega), ud_ne (by omega)] <;> (exact q.2.2.1)
    · rw [ud_ne (by omega), ud_ne (by omega), ud_ne (by omega), ud_ne (by omega), ud_ne (by omega)] <;> (exact q.2.2.2.1)
    · rw [ud_ne (by omega), ud_ne (by omega), ud_ne (by omega), ud_ne (by omega), ud_ne (by omega)] <;> (exact q.2.2.2.2.1)
    · rw [ud_ne (by omega), ud_ne (by omega), ud_ne (by omega), ud_ne (by omega), ud_ne (by omega), ud_ne (by omega), ud_ne (by omega)] <;> (exact q.2.2.2.2.2.1)
    · rw [ud_ne (by omega), ud_ne (by omega), ud_ne (by omega), ud_ne (by omega), ud_ne (by omega)] <;> (exact q.2.2.2.2.2.2.1)
    · rw [ud_ne (by omega), ud_ne (by omega), ud_ne (by omega), ud_ne (by omega), ud_ne (by omega), ud_ne (by omega), ud_ne (by omega)] <;> (exact q.2.2.2.2.2.2.2.1)
    · rw [ud_ne (by omega), ud_ne (by omega), ud_ne (by omega), ud_ne (by omega), ud_ne (by omega)] <;> (exact q.2.2.2.2.2.2.2.2.1)
    · rw [ud_ne (by omega), ud_ne (by omega), ud_ne (by omega), ud_ne (by omega), ud_ne (by omega)] <;> (exact q.2.2.2.2.2.2.2.2.2.1)
    · rw [ud_ne (by omega), ud_ne (by omega), ud_ne (by omega), ud_ne (by omega), ud_ne (by omega), ud_ne (by omega), ud_ne (by omega)] <;> (exact q.2.2.2.2.2.2.2.2.2.2.1)
    · rw [ud_ne (by omega), ud_ne (by omega), ud_ne (by omega), ud_ne (by omega), ud_ne (by omega), ud_ne (by omega), ud_ne (by omega)] <;> (exact q.2.2.2.2.2.2.2.2.2.2.2)
  have hZ_ : SmZ (ud (ud (ud f (cA c + 7) 0) (cA c + 3) 0) 15 (f 15 + 1)) := by
    intro j u0
    rw [ud_ne (by omega), ud_ne (by omega), ud_ne (by omega)]
    exact h.Z j u0
  exact ⟨hA_, hT_, hL_, hE_, hP_, hO_, hC_, hM_, hV_, hW_, hJ_, hH_, hS_, hZ_⟩
set_option maxHeartbeats 4000000 in
theorem sm_now {e : Int} (he : g 0 ≤ e) (h : Sm0 f g) (hI : IM B g) : Sm0 (ud f 0 e) (ud g 0 e) := by
  have n0 := hI.n0 (j := 0) (by omega)
  have hA_ : SmA (ud f 0 e) (ud g 0 e) := by
    have q := h.A
    unfold SmA at q
    refine ⟨?_, ?_, ?_⟩
    · rw [ud_eq, ud_eq] <;> omega
    · rw [ud_ne (by omega), ud_ne (by omega)] <;> omega
    · rw [ud_ne (by omega), ud_ne (by omega)] <;> omega
  have hT_ : SmT (ud f 0 e) (ud g 0 e) := by
    intro i u0
    rw [ud_ne (by omega), ud_ne (by omega)]
    exact h.T i u0
  have hL_ : SmL (ud f 0 e) (ud g 0 e) := by
    intro i u0
    rw [ud_ne (by omega), ud_ne (by omega)]
    exact h.L i u0
  have hE_ : SmE (ud f 0 e) (ud g 0 e) := by
    intro k_ u0
    rw [ud_ne (by omega), ud_ne (by omega)]
    exact h.E k_ u0
  have hP_ : SmP (ud f 0 e) (ud g 0 e) := by
    intro r_ u0
    rw [ud_ne (by omega), ud_ne (by omega)]
    exact h.P r_ u0
  have hO_ : SmO (ud f 0 e) (ud g 0 e) := by
    intro r_ u0
    rw [ud_ne (by omega), ud_ne (by omega)]
    exact h.O r_ u0
  have hC_ : SmC (ud f 0 e) (ud g 0 e) := by
    intro a_ u0
    rw [ud_ne (by omega), ud_ne (by omega)]
    exact h.C a_ u0
  have hM_ : SmM (ud f 0 e) (ud g 0 e) := by
    intro r_ k_ u0 u1
    rw [ud_ne (by omega), ud_ne (by omega)]
    exact h.M r_ k_ u0 u1
  have hJ_ : SmJ (ud f 0 e) (ud g 0 e) := by
    intro n i u0 u1
    have hj := jA_b u0
    rw [ud_ne (by omega), ud_ne (by omega)]
    exact h.J n i u0 u1
  have hK : ∀ n, 1 ≤ n ∧ n ≤ 60 → (ud g 0 e) (36 + 3 * (n - 1)) = g (36 + 3 * (n - 1)) := by
    intro n u0
    rw [ud_ne (by omega)]
  have hV_ : SmV (ud f 0 e) (ud g 0 e) := by
    intro r_ k_ u0 u1
    rw [lastI_cong hK (by rw [ud_ne (by omega)]; exact (hI.n60 (by omega)).2)]
    rw [ud_ne (by omega), ud_ne (by omega)]
    exact h.V r_ k_ u0 u1
  have hW_ : SmW (ud f 0 e) (ud g 0 e) := by
    intro k_ u0
    rw [lastI_cong hK (by rw [ud_ne (by omega)]; exact (hI.n60 (by omega)).2)]
    rw [ud_ne (by omega), ud_ne (by omega)]
    exact h.W k_ u0
  have hH_ : SmH (ud f 0 e) (ud g 0 e) := by
    intro c_ u0
    have q := h.H c_ u0
    have hc1 := cA_b (c := c_) u0
    have hc2 := hA_b (c := c_) u0
    have w1 : (ud f 0 e) (cA c_ + 7) = f (cA c_ + 7) := by rw [ud_ne (by omega)]
    have w2 : (ud f 0 e) (cA c_ + 1) = f (cA c_ + 1) := by rw [ud_ne (by omega)]
    have w3 : (ud f 0 e) (cA c_ + 3) = f (cA c_ + 3) := by rw [ud_ne (by omega)]
    have w4 : (ud g 0 e) (hA c_ + 1) = g (hA c_ + 1) := by rw [ud_ne (by omega)]
    have w5 : (ud g 0 e) (hA c_ + 3) = g (hA c_ + 3) := by rw [ud_ne (by omega)]
    have x0 : (ud f 0 e) (cA c_ + 0) = (ud g 0 e) (hA c_ + 0) := by
      rw [ud_ne (by omega), ud_ne (by omega)] <;> (first | omega | exact q.1)
    have x1 : (ud f 0 e) (cA c_ + 2) = (ud g 0 e) (hA c_ + 2) := by
      rw [ud_ne (by omega), ud_ne (by omega)] <;> (first | omega | exact q.2.1)
    have x2 : (ud f 0 e) (cA c_ + 4) = (ud g 0 e) (hA c_ + 4) := by
      rw [ud_ne (by omega), ud_ne (by omega)] <;> (first | omega | exact q.2.2.1)
    have x3 : (ud f 0 e) (cA c_ + 5) = (ud g 0 e) (hA c_ + 5) := by
      rw [ud_ne (by omega), ud_ne (by omega)] <;> (first | omega | exact q.2.2.2.1)
    have x4 : (ud f 0 e) (cA c_ + 6) = (ud g 0 e) (hA c_ + 6) := by
      rw [ud_ne (by omega), ud_ne (by omega)] <;> (first | omega | exact q.2.2.2.2.1)
    refine ⟨x0, x1, x2, x3, x4, ?_, ?_⟩
    · rw [w2]; omega
    · rw [w1, w2, w3, w4, w5]; omega
  have hS_ : SmS (ud f 0 e) (ud g 0 e) := by
    intro a_ k_ u0 u1
    have q := h.S a_ k_ u0 u1
    have b1 := sA_b u0 u1
    have b2 := eA_b u0 u1
    have b3 := oA_b u0 u1
    have b4 := lA_b u0 u1
    have b5 := dA_b u0 u1
    refine ⟨?_, ?_, ?_, ?_, ?_, ?_, ?_, ?_, ?_, ?_, ?_, ?_⟩
    · rw [ud_ne (by omega), ud_ne (by omega)] <;> (exact q.1)
    · rw [ud_ne (by omega), ud_ne (by omega)] <;> (exact q.2.1)
    · rw [ud_ne (by omega), ud_ne (by omega)] <;> (exact q.2.2.1)
    · rw [ud_ne (by omega), ud_ne (by omega)] <;> (exact q.2.2.2.1)
    · rw [ud_ne (by omega), ud_ne (by omega)] <;> (exact q.2.2.2.2.1)
    · rw [ud_eq, ud_ne (by omega), ud_ne (by omega)] <;> (have z := q.2.2.2.2.2.1; unfold EA at *; omega)
    · rw [ud_ne (by omega), ud_ne (by omega)] <;> (exact q.2.2.2.2.2.2.1)
    · rw [ud_eq, ud_ne (by omega), ud_ne (by omega)] <;> (have z := q.2.2.2.2.2.2.2.1; unfold EA at *; omega)
    · rw [ud_ne (by omega), ud_ne (by omega)] <;> (exact q.2.2.2.2.2.2.2.2.1)
    · rw [ud_ne (by omega), ud_ne (by omega)] <;> (exact q.2.2.2.2.2.2.2.2.2.1)
    · rw [ud_eq, ud_ne (by omega), ud_ne (by omega)] <;> (have z := q.2.2.2.2.2.2.2.2.2.2.1; unfold EA at *; omega)
    · rw [ud_eq, ud_ne (by omega), ud_ne (by omega)] <;> (have z := q.2.2.2.2.2.2.2.2.2.2.2; unfold EA at *; omega)
  have hZ_ : SmZ (ud f 0 e) := by
    intro j u0
    rw [ud_ne (by omega)]
    exact h.Z j u0
  exact ⟨hA_, hT_, hL_, hE_, hP_, hO_, hC_, hM_, hV_, hW_, hJ_, hH_, hS_, hZ_⟩
set_option maxHeartbeats 4000000 in
theorem sm_set {i v : Int} (hi : 0 ≤ i ∧ i < 7 ∧ i ≠ 5) (h : Sm0 f g) (hI : IM B g) : Sm0 (ud f (3 + i) v) (ud g (3 + i) v) := by
  have hA_ : SmA (ud f (3 + i) v) (ud g (3 + i) v) := by
    have q := h.A
    unfold SmA at q
    refine ⟨?_, ?_, ?_⟩
    · rw [ud_ne (by omega), ud_ne (by omega)] <;> omega
    · rw [ud_ne (by omega), ud_ne (by omega)] <;> omega
    · rw [ud_ne (by omega), ud_ne (by omega)] <;> omega
  have hT_ : SmT (ud f (3 + i) v) (ud g (3 + i) v) := by
    intro i_ u0
    rcases Decidable.em (i = i_) with e | e
    · subst e
      have q := h.T i u0
      rw [ud_eq, ud_eq] <;> (first | exact q | omega | (simp only [Int.reduceAdd, Int.add_zero] at *; omega))
    · skip
      rw [ud_ne (by omega), ud_ne (by omega)]
      exact h.T i_ u0
  have hL_ : SmL (ud f (3 + i) v) (ud g (3 + i) v) := by
    intro i u0
    rw [ud_ne (by omega), ud_ne (by omega)]
    exact h.L i u0
  have hE_ : SmE (ud f (3 + i) v) (ud g (3 + i) v) := by
    intro k_ u0
    rw [ud_ne (by omega), ud_ne (by omega)]
    exact h.E k_ u0
  have hP_ : SmP (ud f (3 + i) v) (ud g (3 + i) v) := by
    intro r_ u0
    rw [ud_ne (by omega), ud_ne (by omega)]
    exact h.P r_ u0
  have hO_ : SmO (ud f (3 + i) v) (ud g (3 + i) v) := by
    intro r_ u0
    rw [ud_ne (by omega), ud_ne (by omega)]
    exact h.O r_ u0
  have hC_ : SmC (ud f (3 + i) v) (ud g (3 + i) v) := by
    intro a_ u0
    rw [ud_ne (by omega), ud_ne (by omega)]
    exact h.C a_ u0
  have hM_ : SmM (ud f (3 + i) v) (ud g (3 + i) v) := by
    intro r_ k_ u0 u1
    rw [ud_ne (by omega), ud_ne (by omega)]
    exact h.M r_ k_ u0 u1
  have hJ_ : SmJ (ud f (3 + i) v) (ud g (3 + i) v) := by
    intro n i u0 u1
    have hj := jA_b u0
    rw [ud_ne (by omega), ud_ne (by omega)]
    exact h.J n i u0 u1
  have hK : ∀ n, 1 ≤ n ∧ n ≤ 60 → (ud g (3 + i) v) (36 + 3 * (n - 1)) = g (36 + 3 * (n - 1)) := by
    intro n u0
    rw [ud_ne (by omega)]
  have hV_ : SmV (ud f (3 + i) v) (ud g (3 + i) v) := by
    intro r_ k_ u0 u1
    rw [lastI_cong hK (by rw [ud_ne (by omega)]; exact (hI.n60 (by omega)).2)]
    rw [ud_ne (by omega), ud_ne (by omega)]
    exact h.V r_ k_ u0 u1
  have hW_ : SmW (ud f (3 + i) v) (ud g (3 + i) v) := by
    intro k_ u0
    rw [lastI_cong hK (by rw [ud_ne (by omega)]; exact (hI.n60 (by omega)).2)]
    rw [ud_ne (by omega), ud_ne (by omega)]
    exact h.W k_ u0
  have hH_ : SmH (ud f (3 + i) v) (ud g (3 + i) v) := by
    intro c_ u0
    have q := h.H c_ u0
    have hc1 := cA_b (c := c_) u0
    have hc2 := hA_b (c := c_) u0
    have w1 : (ud f (3 + i) v) (cA c_ + 7) = f (cA c_ + 7) := by rw [ud_ne (by omega)]
    have w2 : (ud f (3 + i) v) (cA c_ + 1) = f (cA c_ + 1) := by rw [ud_ne (by omega)]
    have w3 : (ud f (3 + i) v) (cA c_ + 3) = f (cA c_ + 3) := by rw [ud_ne (by omega)]
    have w4 : (ud g (3 + i) v) (hA c_ + 1) = g (hA c_ + 1) := by rw [ud_ne (by omega)]
    have w5 : (ud g (3 + i) v) (hA c_ + 3) = g (hA c_ + 3) := by rw [ud_ne (by omega)]
    have x0 : (ud f (3 + i) v) (cA c_ + 0) = (ud g (3 + i) v) (hA c_ + 0) := by
      rw [ud_ne (by omega), ud_ne (by omega)] <;> (first | omega | exact q.1)
    have x1 : (ud f (3 + i) v) (cA c_ + 2) = (ud g (3 + i) v) (hA c_ + 2) := by
      rw [ud_ne (by omega), ud_ne (by omega)] <;> (first | omega | exact q.2.1)
    have x2 : (ud f (3 + i) v) (cA c_ + 4) = (ud g (3 + i) v) (hA c_ + 4) := by
      rw [ud_ne (by omega), ud_ne (by omega)] <;> (first | omega | exact q.2.2.1)
    have x3 : (ud f (3 + i) v) (cA c_ + 5) = (ud g (3 + i) v) (hA c_ + 5) := by
      rw [ud_ne (by omega), ud_ne (by omega)] <;> (first | omega | exact q.2.2.2.1)
    have x4 : (ud f (3 + i) v) (cA c_ + 6) = (ud g (3 + i) v) (hA c_ + 6) := by
      rw [ud_ne (by omega), ud_ne (by omega)] <;> (first | omega | exact q.2.2.2.2.1)
    refine ⟨x0, x1, x2, x3, x4, ?_, ?_⟩
    · rw [w2]; omega
    · rw [w1, w2, w3, w4, w5]; omega
  have hS_ : SmS (ud f (3 + i) v) (ud g (3 + i) v) := by
    intro a_ k_ u0 u1
    have q := h.S a_ k_ u0 u1
    have b1 := sA_b u0 u1
    have b2 := eA_b u0 u1
    have b3 := oA_b u0 u1
    have b4 := lA_b u0 u1
    have b5 := dA_b u0 u1
    refine ⟨?_, ?_, ?_, ?_, ?_, ?_, ?_, ?_, ?_, ?_, ?_, ?_⟩
    · rw [ud_ne (by omega), ud_ne (by omega)] <;> (exact q.1)
    · rw [ud_ne (by omega), ud_ne (by omega)] <;> (exact q.2.1)
    · rw [ud_ne (by omega), ud_ne (by omega)] <;> (exact q.2.2.1)
    · rw [ud_ne (by omega), ud_ne (by omega)] <;> (exact q.2.2.2.1)
    · rw [ud_ne (by omega), ud_ne (by omega)] <;> (exact q.2.2.2.2.1)
    · rw [ud_ne (by omega), ud_ne (by omega), ud_ne (by omega)] <;> (exact q.2.2.2.2.2.1)
    · rw [ud_ne (by omega), ud_ne (by omega)] <;> (exact q.2.2.2.2.2.2.1)
    · rw [ud_ne (by omega), ud_ne (by omega), ud_ne (by omega)] <;> (exact q.2.2.2.2.2.2.2.1)
    · rw [ud_ne (by omega), ud_ne (by omega)] <;> (exact q.2.2.2.2.2.2.2.2.1)
    · rw [ud_ne (by omega), ud_ne (by omega)] <;> (exact q.2.2.2.2.2.2.2.2.2.1)
    · rw [ud_ne (by omega), ud_ne (by omega), ud_ne (by omega)] <;> (exact q.2.2.2.2.2.2.2.2.2.2.1)
    · rw [ud_ne (by omega), ud_ne (by omega), ud_ne (by omega)] <;> (exact q.2.2.2.2.2.2.2.2.2.2.2)
  have hZ_ : SmZ (ud f (3 + i) v) := by
    intro j u0
    rw [ud_ne (by omega)]
    exact h.Z j u0
  exact ⟨hA_, hT_, hL_, hE_, hP_, hO_, hC_, hM_, hV_, hW_, hJ_, hH_, hS_, hZ_⟩
set_option maxHeartbeats 4000000 in
theorem sm_pol {v w : Int} (h : Sm0 f g) (hI : IM B g) : Sm0 (ud f 8 v) (ud g 8 w) := by
  have hA_ : SmA (ud f 8 v) (ud g 8 w) := by
    have q := h.A
    unfold SmA at q
    refine ⟨?_, ?_, ?_⟩
    · rw [ud_ne (by omega), ud_ne (by omega)] <;> omega
    · rw [ud_ne (by omega), ud_ne (by omega)] <;> omega
    · rw [ud_ne (by omega), ud_ne (by omega)] <;> omega
  have hT_ : SmT (ud f 8 v) (ud g 8 w) := by
    intro i u0
    rw [ud_ne (by omega), ud_ne (by omega)]
    exact h.T i u0
  have hL_ : SmL (ud f 8 v) (ud g 8 w) := by
    intro i u0
    rw [ud_ne (by omega), ud_ne (by omega)]
    exact h.L i u0
  have hE_ : SmE (ud f 8 v) (ud g 8 w) := by
    intro k_ u0
    rw [ud_ne (by omega), ud_ne (by omega)]
    exact h.E k_ u0
  have hP_ : SmP (ud f 8 v) (ud g 8 w) := by
    intro r_ u0
    rw [ud_ne (by omega), ud_ne (by omega)]
    exact h.P r_ u0
  have hO_ : SmO (ud f 8 v) (ud g 8 w) := by
    intro r_ u0
    rw [ud_ne (by omega), ud_ne (by omega)]
    exact h.O r_ u0
  have hC_ : SmC (ud f 8 v) (ud g 8 w) := by
    intro a_ u0
    rw [ud_ne (by omega), ud_ne (by omega)]
    exact h.C a_ u0
  have hM_ : SmM (ud f 8 v) (ud g 8 w) := by
    intro r_ k_ u0 u1
    rw [ud_ne (by omega), ud_ne (by omega)]
    exact h.M r_ k_ u0 u1
  have hJ_ : SmJ (ud f 8 v) (ud g 8 w) := by
    intro n i u0 u1
    have hj := jA_b u0
    rw [ud_ne (by omega), ud_ne (by omega)]
    exact h.J n i u0 u1
  have hK : ∀ n, 1 ≤ n ∧ n ≤ 60 → (ud g 8 w) (36 + 3 * (n - 1)) = g (36 + 3 * (n - 1)) := by
    intro n u0
    rw [ud_ne (by omega)]
  have hV_ : SmV (ud f 8 v) (ud g 8 w) := by
    intro r_ k_ u0 u1
    rw [lastI_cong hK (by rw [ud_ne (by omega)]; exact (hI.n60 (by omega)).2)]
    rw [ud_ne (by omega), ud_ne (by omega)]
    exact h.V r_ k_ u0 u1
  have hW_ : SmW (ud f 8 v) (ud g 8 w) := by
    intro k_ u0
    rw [lastI_cong hK (by rw [ud_ne (by omega)]; exact (hI.n60 (by omega)).2)]
    rw [ud_ne (by omega), ud_ne (by omega)]
    exact h.W k_ u0
  have hH_ : SmH (ud f 8 v) (ud g 8 w) := by
    intro c_ u0
    have q := h.H c_ u0
    have hc1 := cA_b (c := c_) u0
    have hc2 := hA_b (c := c_) u0
    have w1 : (ud f 8 v) (cA c_ + 7) = f (cA c_ + 7) := by rw [ud_ne (by omega)]
    have w2 : (ud f 8 v) (cA c_ + 1) = f (cA c_ + 1) := by rw [ud_ne (by omega)]
    have w3 : (ud f 8 v) (cA c_ + 3) = f (cA c_ + 3) := by rw [ud_ne (by omega)]
    have w4 : (ud g 8 w) (hA c_ + 1) = g (hA c_ + 1) := by rw [ud_ne (by omega)]
    have w5 : (ud g 8 w) (hA c_ + 3) = g (hA c_ + 3) := by rw [ud_ne (by omega)]
    have x0 : (ud f 8 v) (cA c_ + 0) = (ud g 8 w) (hA c_ + 0) := by
      rw [ud_ne (by omega), ud_ne (by omega)] <;> (first | omega | exact q.1)
    have x1 : (ud f 8 v) (cA c_ + 2) = (ud g 8 w) (hA c_ + 2) := by
      rw [ud_ne (by omega), ud_ne (by omega)] <;> (first | omega | exact q.2.1)
    have x2 : (ud f 8 v) (cA c_ + 4) = (ud g 8 w) (hA c_ + 4) := by
      rw [ud_ne (by omega), ud_ne (by omega)] <;> (first | omega | exact q.2.2.1)
    have x3 : (ud f 8 v) (cA c_ + 5) = (ud g 8 w) (hA c_ + 5) := by
      rw [ud_ne (by omega), ud_ne (by omega)] <;> (first | omega | exact q.2.2.2.1)
    have x4 : (ud f 8 v) (cA c_ + 6) = (ud g 8 w) (hA c_ + 6) := by
      rw [ud_ne (by omega), ud_ne (by omega)] <;> (first | omega | exact q.2.2.2.2.1)
    refine ⟨x0, x1, x2, x3, x4, ?_, ?_⟩
    · rw [w2]; omega
    · rw [w1, w2, w3, w4, w5]; omega
  have hS_ : SmS (ud f 8 v) (ud g 8 w) := by
    intro a_ k_ u0 u1
    have q := h.S a_ k_ u0 u1
    have b1 := sA_b u0 u1
    have b2 := eA_b u0 u1
    have b3 := oA_b u0 u1
    have b4 := lA_b u0 u1
    have b5 := dA_b u0 u1
    refine ⟨?_, ?_, ?_, ?_, ?_, ?_, ?_, ?_, ?_, ?_, ?_, ?_⟩
    · rw [ud_ne (by omega), ud_ne (by omega)] <;> (exact q.1)
    · rw [ud_ne (by omega), ud_ne (by omega)] <;> (exact q.2.1)
    · rw [ud_ne (by omega), ud_ne (by omega)] <;> (exact q.2.2.1)
    · rw [ud_ne (by omega), ud_ne (by omega)] <;> (exact q.2.2.2.1)
    · rw [ud_ne (by omega), ud_ne (by omega)] <;> (exact q.2.2.2.2.1)
    · rw [ud_ne (by omega), ud_ne (by omega), ud_ne (by omega)] <;> (exact q.2.2.2.2.2.1)
    · rw [ud_ne (by omega), ud_ne (by omega)] <;> (exact q.2.2.2.2.2.2.1)
    · rw [ud_ne (by omega), ud_ne (by omega), ud_ne (by omega)] <;> (exact q.2.2.2.2.2.2.2.1)
    · rw [ud_ne (by omega), ud_ne (by omega)] <;> (exact q.2.2.2.2.2.2.2.2.1)
    · rw [ud_ne (by omega), ud_ne (by omega)] <;> (exact q.2.2.2.2.2.2.2.2.2.1)
    · rw [ud_ne (by omega), ud_ne (by omega), ud_ne (by omega)] <;> (exact q.2.2.2.2.2.2.2.2.2.2.1)
    · rw [ud_ne (by omega), ud_ne (by omega), ud_ne (by omega)] <;> (exact q.2.2.2.2.2.2.2.2.2.2.2)
  have hZ_ : SmZ (ud f 8 v) := by
    intro j u0
    rw [ud_ne (by omega)]
    exact h.Z j u0
  exact ⟨hA_, hT_, hL_, hE_, hP_, hO_, hC_, hM_, hV_, hW_, hJ_, hH_, hS_, hZ_⟩
set_option maxHeartbeats 4000000 in
theorem sm_go {c : Int} (hc : 0 ≤ c ∧ c < 6) {a : Int} (ha : 0 ≤ a ∧ a < 6) (h : Sm0 f g) (hI : IM B g) : Sm0 (ud (ud (ud f (cA c + 0) a) (cA c + 7) 0) (cA c + 3) 0) (ud (ud g (hA c + 0) a) (hA c + 1) (-1)) := by
  have pc1 := cA_b hc
  have pc2 := hA_b hc
  have pc3 := h.H c hc
  have hA_ : SmA (ud (ud (ud f (cA c + 0) a) (cA c + 7) 0) (cA c + 3) 0) (ud (ud g (hA c + 0) a) (hA c + 1) (-1)) := by
    have q := h.A
    unfold SmA at q
    refine ⟨?_, ?_, ?_⟩
    · rw [ud_ne (by omega), ud_ne (by omega), ud_ne (by omega), ud_ne (by omega), ud_ne (by omega)] <;> omega
    · rw [ud_ne (by omega), ud_ne (by omega), ud_ne (by omega), ud_ne (by omega), ud_ne (by omega)] <;> omega
    · rw [ud_ne (by omega), ud_ne (by omega), ud_ne (by omega), ud_ne (by omega), ud_ne (by omega)] <;> omega
  have hT_ : SmT (ud (ud (ud f (cA c + 0) a) (cA c + 7) 0) (cA c + 3) 0) (ud (ud g (hA c + 0) a) (hA c + 1) (-1)) := by
    intro i u0
    rw [ud_ne (by omega), ud_ne (by omega), ud_ne (by omega), ud_ne (by omega), ud_ne (by omega)]
    exact h.T i u0
  have hL_ : SmL (ud (ud (ud f (cA c + 0) a) (cA c + 7) 0) (cA c + 3) 0) (ud (ud g (hA c + 0) a) (hA c + 1) (-1)) := by
    intro i u0
    rw [ud_ne (by omega), ud_ne (by omega), ud_ne (by omega), ud_ne (by omega), ud_ne (by omega)]
    exact h.L i u0
  have hE_ : SmE (ud (ud (ud f (cA c + 0) a) (cA c + 7) 0) (cA c + 3) 0) (ud (ud g (hA c + 0) a) (hA c + 1) (-1)) := by
    intro k_ u0
    rw [ud_ne (by omega), ud_ne (by omega), ud_ne (by omega), ud_ne (by omega), ud_ne (by omega)]
    exact h.E k_ u0
  have hP_ : SmP (ud (ud (ud f (cA c + 0) a) (cA c + 7) 0) (cA c + 3) 0) (ud (ud g (hA c + 0) a) (hA c + 1) (-1)) := by
    intro r_ u0
    rw [ud_ne (by omega), ud_ne (by omega), ud_ne (by omega), ud_ne (by omega), ud_ne (by omega)]
    exact h.P r_ u0
  have hO_ : SmO (ud (ud (ud f (cA c + 0) a) (cA c + 7) 0) (cA c + 3) 0) (ud (ud g (hA c + 0) a) (hA c + 1) (-1)) := by
    intro r_ u0
    rw [ud_ne (by omega), ud_ne (by omega), ud_ne (by omega), ud_ne (by omega), ud_ne (by omega)]
    exact h.O r_ u0
  have hC_ : SmC (ud (ud (ud f (cA c + 0) a) (cA c + 7) 0) (cA c + 3) 0) (ud (ud g (hA c + 0) a) (hA c + 1) (-1)) := by
    intro a_ u0
    rw [ud_ne (by omega), ud_ne (by omega), ud_ne (by omega), ud_ne (by omega), ud_ne (by omega)]
    exact h.C a_ u0
  have hM_ : SmM (ud (ud (ud f (cA c + 0) a) (cA c + 7) 0) (cA c + 3) 0) (ud (ud g (hA c + 0) a) (hA c + 1) (-1)) := by
    intro r_ k_ u0 u1
    rw [ud_ne (by omega), ud_ne (by omega), ud_ne (by omega), ud_ne (by omega), ud_ne (by omega)]
    exact h.M r_ k_ u0 u1
  have hJ_ : SmJ (ud (ud (ud f (cA c + 0) a) (cA c + 7) 0) (cA c + 3) 0) (ud (ud g (hA c + 0) a) (hA c + 1) (-1)) := by
    intro n i u0 u1
    have hj := jA_b u0
    rw [ud_ne (by omega), ud_ne (by omega), ud_ne (by omega), ud_ne (by omega), ud_ne (by omega)]
    exact h.J n i u0 u1
  have hK : ∀ n, 1 ≤ n ∧ n ≤ 60 → (ud (ud g (hA c + 0) a) (hA c + 1) (-1)) (36 + 3 * (n - 1)) = g (36 + 3 * (n - 1)) := by
    intro n u0
    rw [ud_ne (by omega), ud_ne (by omega)]
  have hV_ : SmV (ud (ud (ud f (cA c + 0) a) (cA c + 7) 0) (cA c + 3) 0) (ud (ud g (hA c + 0) a) (hA c + 1) (-1)) := by
    intro r_ k_ u0 u1
    rw [lastI_cong hK (by rw [ud_ne (by omega), ud_ne (by omega)]; exact (hI.n60 (by omega)).2)]
    rw [ud_ne (by omega), ud_ne (by omega), ud_ne (by omega), ud_ne (by omega), ud_ne (by omega)]
    exact h.V r_ k_ u0 u1
  have hW_ : SmW (ud (ud (ud f (cA c + 0) a) (cA c + 7) 0) (cA c + 3) 0) (ud (ud g (hA c + 0) a) (hA c + 1) (-1)) := by
    intro k_ u0
    rw [lastI_cong hK (by rw [ud_ne (by omega), ud_ne (by omega)]; exact (hI.n60 (by omega)).2)]
    rw [ud_ne (by omega), ud_ne (by omega), ud_ne (by omega), ud_ne (by omega), ud_ne (by omega)]
    exact h.W k_ u0
  have hH_ : SmH (ud (ud (ud f (cA c + 0) a) (cA c + 7) 0) (cA c + 3) 0) (ud (ud g (hA c + 0) a) (hA c + 1) (-1)) := by
    intro c_ u0
    rcases Decidable.em (c = c_) with e | e
    · subst e
      have q := h.H c u0
      have hc1 := cA_b (c := c) u0
      have hc2 := hA_b (c := c) u0
      have w1 : (ud (ud (ud f (cA c + 0) a) (cA c + 7) 0) (cA c + 3) 0) (cA c + 7) = 0 := by rw [ud_ne (by omega), ud_eq]
      have w2 : (ud (ud (ud f (cA c + 0) a) (cA c + 7) 0) (cA c + 3) 0) (cA c + 1) = f (cA c + 1) := by rw [ud_ne (by omega), ud_ne (by omega), ud_ne (by omega)]
      have w3 : (ud (ud (ud f (cA c + 0) a) (cA c + 7) 0) (cA c + 3) 0) (cA c + 3) = 0 := by rw [ud_eq]
      have w4 : (ud (ud g (hA c + 0) a) (hA c + 1) (-1)) (hA c + 1) = -1 := by rw [ud_eq]
      have w5 : (ud (ud g (hA c + 0) a) (hA c + 1) (-1)) (hA c + 3) = g (hA c + 3) := by rw [ud_ne (by omega), ud_ne (by omega)]
      have x0 : (ud (ud (ud f (cA c + 0) a) (cA c + 7) 0) (cA c + 3) 0) (cA c + 0) = (ud (ud g (hA c + 0) a) (hA c + 1) (-1)) (hA c + 0) := by
        rw [ud_ne (by omega), ud_ne (by omega), ud_eq, ud_ne (by omega), ud_eq] <;> (first | omega | exact q.1)
      have x1 : (ud (ud (ud f (cA c + 0) a) (cA c + 7) 0) (cA c + 3) 0) (cA c + 2) = (ud (ud g (hA c + 0) a) (hA c + 1) (-1)) (hA c + 2) := by
        rw [ud_ne (by omega), ud_ne (by omega), ud_ne (by omega), ud_ne (by omega), ud_ne (by omega)] <;> (first | omega | exact q.2.1)
      have x2 : (ud (ud (ud f (cA c + 0) a) (cA c + 7) 0) (cA c + 3) 0) (cA c + 4) = (ud (ud g (hA c + 0) a) (hA c + 1) (-1)) (hA c + 4) := by
        rw [ud_ne (by omega), ud_ne (by omega), ud_ne (by omega), ud_ne (by omega), ud_ne (by omega)] <;> (first | omega | exact q.2.2.1)
      have x3 : (ud (ud (ud f (cA c + 0) a) (cA c + 7) 0) (cA c + 3) 0) (cA c + 5) = (ud (ud g (hA c + 0) a) (hA c + 1) (-1)) (hA c + 5) := by
        rw [ud_ne (by omega), ud_ne (by omega), ud_ne (by omega), ud_ne (by omega), ud_ne (by omega)] <;> (first | omega | exact q.2.2.2.1)
      have x4 : (ud (ud (ud f (cA c + 0) a) (cA c + 7) 0) (cA c + 3) 0) (cA c + 6) = (ud (ud g (hA c + 0) a) (hA c + 1) (-1)) (hA c + 6) := by
        rw [ud_ne (by omega), ud_ne (by omega), ud_ne (by omega), ud_ne (by omega), ud_ne (by omega)] <;> (first | omega | exact q.2.2.2.2.1)
      refine ⟨x0, x1, x2, x3, x4, ?_, ?_⟩
      · rw [w2]; omega
      · rw [w1, w2, w3, w4, w5]; omega
    · have d1 : cA c_ + 8 ≤ cA c ∨ cA c + 8 ≤ cA c_ := by unfold cA; omega
      have d2 : hA c_ + 7 ≤ hA c ∨ hA c + 7 ≤ hA c_ := by unfold hA; omega
      have q := h.H c_ u0
      have hc1 := cA_b (c := c_) u0
      have hc2 := hA_b (c := c_) u0
      have w1 : (ud (ud (ud f (cA c + 0) a) (cA c + 7) 0) (cA c + 3) 0) (cA c_ + 7) = f (cA c_ + 7) := by rw [ud_ne (by omega), ud_ne (by omega), ud_ne (by omega)]
      have w2 : (ud (ud (ud f (cA c + 0) a) (cA c + 7) 0) (cA c + 3) 0) (cA c_ + 1) = f (cA c_ + 1) := by rw [ud_ne (by omega), ud_ne (by omega), ud_ne (by omega)]
      have w3 : (ud (ud (ud f (cA c + 0) a) (cA c + 7) 0) (cA c + 3) 0) (cA c_ + 3) = f (cA c_ + 3) := by rw [ud_ne (by omega), ud_ne (by omega), ud_ne (by omega)]
      have w4 : (ud (ud g (hA c + 0) a) (hA c + 1) (-1)) (hA c_ + 1) = g (hA c_ + 1) := by rw [ud_ne (by omega), ud_ne (by omega)]
      have w5 : (ud (ud g (hA c + 0) a) (hA c + 1) (-1)) (hA c_ + 3) = g (hA c_ + 3) := by rw [ud_ne (by omega), ud_ne (by omega)]
      have x0 : (ud (ud (ud f (cA c + 0) a) (cA c + 7) 0) (cA c + 3) 0) (cA c_ + 0) = (ud (ud g (hA c + 0) a) (hA c + 1) (-1)) (hA c_ + 0) := by
        rw [ud_ne (by omega), ud_ne (by omega), ud_ne (by omega), ud_ne (by omega), ud_ne (by omega)] <;> (first | omega | exact q.1)
      have x1 : (ud (ud (ud f (cA c + 0) a) (cA c + 7) 0) (cA c + 3) 0) (cA c_ + 2) = (ud (ud g (hA c + 0) a) (hA c + 1) (-1)) (hA c_ + 2) := by
        rw [ud_ne (by omega), ud_ne (by omega), ud_ne (by omega), ud_ne (by omega), ud_ne (by omega)] <;> (first | omega | exact q.2.1)
      have x2 : (ud (ud (ud f (cA c + 0) a) (cA c + 7) 0) (cA c + 3) 0) (cA c_ + 4) = (ud (ud g (hA c + 0) a) (hA c + 1) (-1)) (hA c_ + 4) := by
        rw [ud_ne (by omega), ud_ne (by omega), ud_ne (by omega), ud_ne (by omega), ud_ne (by omega)] <;> (first | omega | exact q.2.2.1)
      have x3 : (ud (ud (ud f (cA c + 0) a) (cA c + 7) 0) (cA c + 3) 0) (cA c_ + 5) = (ud (ud g (hA c + 0) a) (hA c + 1) (-1)) (hA c_ + 5) := by
        rw [ud_ne (by omega), ud_ne (by omega), ud_ne (by omega), ud_ne (by omega), ud_ne (by omega)] <;> (first | omega | exact q.2.2.2.1)
      have x4 : (ud (ud (ud f (cA c + 0) a) (cA c + 7) 0) (cA c + 3) 0) (cA c_ + 6) = (ud (ud g (hA c + 0) a) (hA c + 1) (-1)) (hA c_ + 6) := by
        rw [ud_ne (by omega), ud_ne (by omega), ud_ne (by omega), ud_ne (by omega), ud_ne (by omega)] <;> (first | omega | exact q.2.2.2.2.1)
      refine ⟨x0, x1, x2, x3, x4, ?_, ?_⟩
      · rw [w2]; omega
      · rw [w1, w2, w3, w4, w5]; omega
  have hS_ : SmS (ud (ud (ud f (cA c + 0) a) (cA c + 7) 0) (cA c + 3) 0) (ud (ud g (hA c + 0) a) (hA c + 1) (-1)) := by
    intro a_ k_ u0 u1
    have q := h.S a_ k_ u0 u1
    have b1 := sA_b u0 u1
    have b2 := eA_b u0 u1
    have b3 := oA_b u0 u1
    have b4 := lA_b u0 u1
    have b5 := dA_b u0 u1
    refine ⟨?_, ?_, ?_, ?_, ?_, ?_, ?_, ?_, ?_, ?_, ?_, ?_⟩
    · rw [ud_ne (by omega), ud_ne (by omega), ud_ne (by omega), ud_ne (by omega), ud_ne (by omega)] <;> (exact q.1)
    · rw [ud_ne (by omega), ud_ne (by omega), ud_ne (by omega), ud_ne (by omega), ud_ne (by omega)] <;> (exact q.2.1)
    · rw [ud_ne (by omega), ud_ne (by omega), ud_ne (by omega), ud_ne (by omega), ud_ne (by omega)] <;> (exact q.2.2.1)
    · rw [ud_ne (by omega), ud_ne (by omega), ud_ne (by omega), ud_ne (by omega), ud_ne (by omega)] <;> (exact q.2.2.2.1)
    · rw [ud_ne (by omega), ud_ne (by omega), ud_ne (by omega), ud_ne (by omega), ud_ne (by omega)] <;> (exact q.2.2.2.2.1)
    · rw [ud_ne (by omega), ud_ne (by omega), ud_ne (by omega), ud_ne (by omega), ud_ne (by omega), ud_ne (by omega), ud_ne (by omega)] <;> (exact q.2.2.2.2.2.1)
    · rw [ud_ne (by omega), ud_ne (by omega), ud_ne (by omega), ud_ne (by omega), ud_ne (by omega)] <;> (exact q.2.2.2.2.2.2.1)
    · rw [ud_ne (by omega), ud_ne (by omega), ud_ne (by omega), ud_ne (by omega), ud_ne (by omega), ud_ne (by omega), ud_ne (by omega)] <;> (exact q.2.2.2.2.2.2.2.1)
    · rw [ud_ne (by omega), ud_ne (by omega), ud_ne (by omega), ud_ne (by omega), ud_ne (by omega)] <;> (exact q.2.2.2.2.2.2.2.2.1)
    · rw [ud_ne (by omega), ud_ne (by omega), ud_ne (by omega), ud_ne (by omega), ud_ne (by omega)] <;> (exact q.2.2.2.2.2.2.2.2.2.1)
    · rw [ud_ne (by omega), ud_ne (by omega), ud_ne (by omega), ud_ne (by omega), ud_ne (by omega), ud_ne (by omega), ud_ne (by omega)] <;> (exact q.2.2.2.2.2.2.2.2.2.2.1)
    · rw [ud_ne (by omega), ud_ne (by omega), ud_ne (by omega), ud_ne (by omega), ud_ne (by omega), ud_ne (by omega), ud_ne (by omega)] <;> (exact q.2.2.2.2.2.2.2.2.2.2.2)
  have hZ_ : SmZ (ud (ud (ud f (cA c + 0) a) (cA c + 7) 0) (cA c + 3) 0) := by
    intro j u0
    rw [ud_ne (by omega), ud_ne (by omega), ud_ne (by omega)]
    exact h.Z j u0
  exact ⟨hA_, hT_, hL_, hE_, hP_, hO_, hC_, hM_, hV_, hW_, hJ_, hH_, hS_, hZ_⟩
end SL
