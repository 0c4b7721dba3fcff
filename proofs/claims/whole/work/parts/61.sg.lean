/-! both rows after an act, case by case -/
section SG
variable {f g : Int → Int} {B : Int}
set_option maxHeartbeats 4000000 in
theorem sm_hit {a k : Int} (ha : 0 ≤ a ∧ a < 6) (hk : 0 ≤ k ∧ k < 10) (h : Sm0 f g) (hI : IM B g) : Sm0 (ud (ud (ud (ud f (sA a k + 3) (f 0)) (sA a k + 4) (f (sA a k + 4) + 1)) (20 + k) (f (20 + k) + 1)) 10 (f 10 + 1)) (ud (ud (ud (ud g (eA a k + 4) (g 0)) (eA a k + 5) (g (eA a k + 5) + 1)) (26 + k) (g (26 + k) + 1)) 16 (g 16 + 1)) := by
  have p1 := sA_b ha hk
  have p2 := eA_b ha hk
  have p3 := oA_b ha hk
  have p4 := lA_b ha hk
  have p5 := dA_b ha hk
  have p6 := h.S a k ha hk
  have p7 := h.A
  unfold SmA at p7
  have l0 : f 10 = g 16 := h.L 0 (by omega)
  have hA_ : SmA (ud (ud (ud (ud f (sA a k + 3) (f 0)) (sA a k + 4) (f (sA a k + 4) + 1)) (20 + k) (f (20 + k) + 1)) 10 (f 10 + 1)) (ud (ud (ud (ud g (eA a k + 4) (g 0)) (eA a k + 5) (g (eA a k + 5) + 1)) (26 + k) (g (26 + k) + 1)) 16 (g 16 + 1)) := by
    have q := h.A
    unfold SmA at q
    refine ⟨?_, ?_, ?_⟩
    · rw [ud_ne (by omega), ud_ne (by omega), ud_ne (by omega), ud_ne (by omega), ud_ne (by omega), ud_ne (by omega), ud_ne (by omega), ud_ne (by omega)]; omega
    · rw [ud_ne (by omega), ud_ne (by omega), ud_ne (by omega), ud_ne (by omega), ud_ne (by omega), ud_ne (by omega), ud_ne (by omega), ud_ne (by omega)]; omega
    · rw [ud_ne (by omega), ud_ne (by omega), ud_ne (by omega), ud_ne (by omega), ud_ne (by omega), ud_ne (by omega), ud_ne (by omega), ud_ne (by omega)]; omega
  have hT_ : SmT (ud (ud (ud (ud f (sA a k + 3) (f 0)) (sA a k + 4) (f (sA a k + 4) + 1)) (20 + k) (f (20 + k) + 1)) 10 (f 10 + 1)) (ud (ud (ud (ud g (eA a k + 4) (g 0)) (eA a k + 5) (g (eA a k + 5) + 1)) (26 + k) (g (26 + k) + 1)) 16 (g 16 + 1)) := by
    intro i u0
    rw [ud_ne (by omega), ud_ne (by omega), ud_ne (by omega), ud_ne (by omega), ud_ne (by omega), ud_ne (by omega), ud_ne (by omega), ud_ne (by omega)]
    exact h.T i u0
  have hL_ : SmL (ud (ud (ud (ud f (sA a k + 3) (f 0)) (sA a k + 4) (f (sA a k + 4) + 1)) (20 + k) (f (20 + k) + 1)) 10 (f 10 + 1)) (ud (ud (ud (ud g (eA a k + 4) (g 0)) (eA a k + 5) (g (eA a k + 5) + 1)) (26 + k) (g (26 + k) + 1)) 16 (g 16 + 1)) := by
    intro i u0
    rcases Decidable.em (0 = i) with e | e
    · subst e
      have q := h.L 0 u0
      rw [ud_at (by omega), ud_at (by omega)] <;> (first | exact q | omega | (simp only [Int.add_zero] at *; omega))
    · skip
      rw [ud_ne (by omega), ud_ne (by omega), ud_ne (by omega), ud_ne (by omega), ud_ne (by omega), ud_ne (by omega), ud_ne (by omega), ud_ne (by omega)]
      exact h.L i u0
  have hE_ : SmE (ud (ud (ud (ud f (sA a k + 3) (f 0)) (sA a k + 4) (f (sA a k + 4) + 1)) (20 + k) (f (20 + k) + 1)) 10 (f 10 + 1)) (ud (ud (ud (ud g (eA a k + 4) (g 0)) (eA a k + 5) (g (eA a k + 5) + 1)) (26 + k) (g (26 + k) + 1)) 16 (g 16 + 1)) := by
    intro k_ u0
    rcases Decidable.em (k = k_) with e | e
    · subst e
      have q := h.E k u0
      rw [ud_ne (by omega), ud_eq, ud_ne (by omega), ud_eq] <;> (first | exact q | omega | (simp only [Int.add_zero] at *; omega))
    · skip
      rw [ud_ne (by omega), ud_ne (by omega), ud_ne (by omega), ud_ne (by omega), ud_ne (by omega), ud_ne (by omega), ud_ne (by omega), ud_ne (by omega)]
      exact h.E k_ u0
  have hP_ : SmP (ud (ud (ud (ud f (sA a k + 3) (f 0)) (sA a k + 4) (f (sA a k + 4) + 1)) (20 + k) (f (20 + k) + 1)) 10 (f 10 + 1)) (ud (ud (ud (ud g (eA a k + 4) (g 0)) (eA a k + 5) (g (eA a k + 5) + 1)) (26 + k) (g (26 + k) + 1)) 16 (g 16 + 1)) := by
    intro r_ u0
    rw [ud_ne (by omega), ud_ne (by omega), ud_ne (by omega), ud_ne (by omega), ud_ne (by omega), ud_ne (by omega), ud_ne (by omega), ud_ne (by omega)]
    exact h.P r_ u0
  have hO_ : SmO (ud (ud (ud (ud f (sA a k + 3) (f 0)) (sA a k + 4) (f (sA a k + 4) + 1)) (20 + k) (f (20 + k) + 1)) 10 (f 10 + 1)) (ud (ud (ud (ud g (eA a k + 4) (g 0)) (eA a k + 5) (g (eA a k + 5) + 1)) (26 + k) (g (26 + k) + 1)) 16 (g 16 + 1)) := by
    intro r_ u0
    rw [ud_ne (by omega), ud_ne (by omega), ud_ne (by omega), ud_ne (by omega), ud_ne (by omega), ud_ne (by omega), ud_ne (by omega), ud_ne (by omega)]
    exact h.O r_ u0
  have hC_ : SmC (ud (ud (ud (ud f (sA a k + 3) (f 0)) (sA a k + 4) (f (sA a k + 4) + 1)) (20 + k) (f (20 + k) + 1)) 10 (f 10 + 1)) (ud (ud (ud (ud g (eA a k + 4) (g 0)) (eA a k + 5) (g (eA a k + 5) + 1)) (26 + k) (g (26 + k) + 1)) 16 (g 16 + 1)) := by
    intro a_ u0
    rw [ud_ne (by omega), ud_ne (by omega), ud_ne (by omega), ud_ne (by omega), ud_ne (by omega), ud_ne (by omega), ud_ne (by omega), ud_ne (by omega)]
    exact h.C a_ u0
  have hM_ : SmM (ud (ud (ud (ud f (sA a k + 3) (f 0)) (sA a k + 4) (f (sA a k + 4) + 1)) (20 + k) (f (20 + k) + 1)) 10 (f 10 + 1)) (ud (ud (ud (ud g (eA a k + 4) (g 0)) (eA a k + 5) (g (eA a k + 5) + 1)) (26 + k) (g (26 + k) + 1)) 16 (g 16 + 1)) := by
    intro r_ k_ u0 u1
    rw [ud_ne (by omega), ud_ne (by omega), ud_ne (by omega), ud_ne (by omega), ud_ne (by omega), ud_ne (by omega), ud_ne (by omega), ud_ne (by omega)]
    exact h.M r_ k_ u0 u1
  have hJ_ : SmJ (ud (ud (ud (ud f (sA a k + 3) (f 0)) (sA a k + 4) (f (sA a k + 4) + 1)) (20 + k) (f (20 + k) + 1)) 10 (f 10 + 1)) (ud (ud (ud (ud g (eA a k + 4) (g 0)) (eA a k + 5) (g (eA a k + 5) + 1)) (26 + k) (g (26 + k) + 1)) 16 (g 16 + 1)) := by
    intro n i u0 u1
    have hj := jA_b u0
    rw [ud_ne (by omega), ud_ne (by omega), ud_ne (by omega), ud_ne (by omega), ud_ne (by omega), ud_ne (by omega), ud_ne (by omega), ud_ne (by omega)]
    exact h.J n i u0 u1
  have hK : ∀ n, 1 ≤ n ∧ n ≤ 60 → (ud (ud (ud (ud g (eA a k + 4) (g 0)) (eA a k + 5) (g (eA a k + 5) + 1)) (26 + k) (g (26 + k) + 1)) 16 (g 16 + 1)) (36 + 3 * (n - 1)) = g (36 + 3 * (n - 1)) := by
    intro n u0
    rw [ud_ne (by omega), ud_ne (by omega), ud_ne (by omega), ud_ne (by omega)]
  have hV_ : SmV (ud (ud (ud (ud f (sA a k + 3) (f 0)) (sA a k + 4) (f (sA a k + 4) + 1)) (20 + k) (f (20 + k) + 1)) 10 (f 10 + 1)) (ud (ud (ud (ud g (eA a k + 4) (g 0)) (eA a k + 5) (g (eA a k + 5) + 1)) (26 + k) (g (26 + k) + 1)) 16 (g 16 + 1)) := by
    intro r_ k_ u0 u1
    rw [lastI_cong hK (by rw [ud_ne (by omega), ud_ne (by omega), ud_ne (by omega), ud_ne (by omega)]; exact (hI.n60 (by omega)).2)]
    rw [ud_ne (by omega), ud_ne (by omega), ud_ne (by omega), ud_ne (by omega), ud_ne (by omega), ud_ne (by omega), ud_ne (by omega), ud_ne (by omega)]
    exact h.V r_ k_ u0 u1
  have hW_ : SmW (ud (ud (ud (ud f (sA a k + 3) (f 0)) (sA a k + 4) (f (sA a k + 4) + 1)) (20 + k) (f (20 + k) + 1)) 10 (f 10 + 1)) (ud (ud (ud (ud g (eA a k + 4) (g 0)) (eA a k + 5) (g (eA a k + 5) + 1)) (26 + k) (g (26 + k) + 1)) 16 (g 16 + 1)) := by
    intro k_ u0
    rw [lastI_cong hK (by rw [ud_ne (by omega), ud_ne (by omega), ud_ne (by omega), ud_ne (by omega)]; exact (hI.n60 (by omega)).2)]
    rw [ud_ne (by omega), ud_ne (by omega), ud_ne (by omega), ud_ne (by omega), ud_ne (by omega), ud_ne (by omega), ud_ne (by omega), ud_ne (by omega)]
    exact h.W k_ u0
  have hH_ : SmH (ud (ud (ud (ud f (sA a k + 3) (f 0)) (sA a k + 4) (f (sA a k + 4) + 1)) (20 + k) (f (20 + k) + 1)) 10 (f 10 + 1)) (ud (ud (ud (ud g (eA a k + 4) (g 0)) (eA a k + 5) (g (eA a k + 5) + 1)) (26 + k) (g (26 + k) + 1)) 16 (g 16 + 1)) := by
    intro c_ u0
    have q := h.H c_ u0
    have hc1 := cA_b (c := c_) u0
    have hc2 := hA_b (c := c_) u0
    have w1 : (ud (ud (ud (ud f (sA a k + 3) (f 0)) (sA a k + 4) (f (sA a k + 4) + 1)) (20 + k) (f (20 + k) + 1)) 10 (f 10 + 1)) (cA c_ + 7) = f (cA c_ + 7) := by rw [ud_ne (by omega), ud_ne (by omega), ud_ne (by omega), ud_ne (by omega)]
    have w2 : (ud (ud (ud (ud f (sA a k + 3) (f 0)) (sA a k + 4) (f (sA a k + 4) + 1)) (20 + k) (f (20 + k) + 1)) 10 (f 10 + 1)) (cA c_ + 1) = f (cA c_ + 1) := by rw [ud_ne (by omega), ud_ne (by omega), ud_ne (by omega), ud_ne (by omega)]
    have w3 : (ud (ud (ud (ud f (sA a k + 3) (f 0)) (sA a k + 4) (f (sA a k + 4) + 1)) (20 + k) (f (20 + k) + 1)) 10 (f 10 + 1)) (cA c_ + 3) = f (cA c_ + 3) := by rw [ud_ne (by omega), ud_ne (by omega), ud_ne (by omega), ud_ne (by omega)]
    have w4 : (ud (ud (ud (ud g (eA a k + 4) (g 0)) (eA a k + 5) (g (eA a k + 5) + 1)) (26 + k) (g (26 + k) + 1)) 16 (g 16 + 1)) (hA c_ + 1) = g (hA c_ + 1) := by rw [ud_ne (by omega), ud_ne (by omega), ud_ne (by omega), ud_ne (by omega)]
    have w5 : (ud (ud (ud (ud g (eA a k + 4) (g 0)) (eA a k + 5) (g (eA a k + 5) + 1)) (26 + k) (g (26 + k) + 1)) 16 (g 16 + 1)) (hA c_ + 3) = g (hA c_ + 3) := by rw [ud_ne (by omega), ud_ne (by omega), ud_ne (by omega), ud_ne (by omega)]
    have x0 : (ud (ud (ud (ud f (sA a k + 3) (f 0)) (sA a k + 4) (f (sA a k + 4) + 1)) (20 + k) (f (20 + k) + 1)) 10 (f 10 + 1)) (cA c_ + 0) = (ud (ud (ud (ud g (eA a k + 4) (g 0)) (eA a k + 5) (g (eA a k + 5) + 1)) (26 + k) (g (26 + k) + 1)) 16 (g 16 + 1)) (hA c_ + 0) := by
      rw [ud_ne (by omega), ud_ne (by omega), ud_ne (by omega), ud_ne (by omega), ud_ne (by omega), ud_ne (by omega), ud_ne (by omega), ud_ne (by omega)] <;> (first | omega | exact q.1)
    have x1 : (ud (ud (ud (ud f (sA a k + 3) (f 0)) (sA a k + 4) (f (sA a k + 4) + 1)) (20 + k) (f (20 + k) + 1)) 10 (f 10 + 1)) (cA c_ + 2) = (ud (ud (ud (ud g (eA a k + 4) (g 0)) (eA a k + 5) (g (eA a k + 5) + 1)) (26 + k) (g (26 + k) + 1)) 16 (g 16 + 1)) (hA c_ + 2) := by
      rw [ud_ne (by omega), ud_ne (by omega), ud_ne (by omega), ud_ne (by omega), ud_ne (by omega), ud_ne (by omega), ud_ne (by omega), ud_ne (by omega)] <;> (first | omega | exact q.2.1)
    have x2 : (ud (ud (ud (ud f (sA a k + 3) (f 0)) (sA a k + 4) (f (sA a k + 4) + 1)) (20 + k) (f (20 + k) + 1)) 10 (f 10 + 1)) (cA c_ + 4) = (ud (ud (ud (ud g (eA a k + 4) (g 0)) (eA a k + 5) (g (eA a k + 5) + 1)) (26 + k) (g (26 + k) + 1)) 16 (g 16 + 1)) (hA c_ + 4) := by
      rw [ud_ne (by omega), ud_ne (by omega), ud_ne (by omega), ud_ne (by omega), ud_ne (by omega), ud_ne (by omega), ud_ne (by omega), ud_ne (by omega)] <;> (first | omega | exact q.2.2.1)
    have x3 : (ud (ud (ud (ud f (sA a k + 3) (f 0)) (sA a k + 4) (f (sA a k + 4) + 1)) (20 + k) (f (20 + k) + 1)) 10 (f 10 + 1)) (cA c_ + 5) = (ud (ud (ud (ud g (eA a k + 4) (g 0)) (eA a k + 5) (g (eA a k + 5) + 1)) (26 + k) (g (26 + k) + 1)) 16 (g 16 + 1)) (hA c_ + 5) := by
      rw [ud_ne (by omega), ud_ne (by omega), ud_ne (by omega), ud_ne (by omega), ud_ne (by omega), ud_ne (by omega), ud_ne (by omega), ud_ne (by omega)] <;> (first | omega | exact q.2.2.2.1)
    have x4 : (ud (ud (ud (ud f (sA a k + 3) (f 0)) (sA a k + 4) (f (sA a k + 4) + 1)) (20 + k) (f (20 + k) + 1)) 10 (f 10 + 1)) (cA c_ + 6) = (ud (ud (ud (ud g (eA a k + 4) (g 0)) (eA a k + 5) (g (eA a k + 5) + 1)) (26 + k) (g (26 + k) + 1)) 16 (g 16 + 1)) (hA c_ + 6) := by
      rw [ud_ne (by omega), ud_ne (by omega), ud_ne (by omega), ud_ne (by omega), ud_ne (by omega), ud_ne (by omega), ud_ne (by omega), ud_ne (by omega)] <;> (first | omega | exact q.2.2.2.2.1)
    refine ⟨x0, x1, x2, x3, x4, ?_, ?_⟩
    · rw [w2]; omega
    · rw [w1, w2, w3, w4, w5]; omega
  have hS_ : SmS (ud (ud (ud (ud f (sA a k + 3) (f 0)) (sA a k + 4) (f (sA a k + 4) + 1)) (20 + k) (f (20 + k) + 1)) 10 (f 10 + 1)) (ud (ud (ud (ud g (eA a k + 4) (g 0)) (eA a k + 5) (g (eA a k + 5) + 1)) (26 + k) (g (26 + k) + 1)) 16 (g 16 + 1)) := by
    intro a_ k_ u0 u1
    rcases Decidable.em (a = a_ ∧ k = k_) with e | e
    · obtain ⟨e1, e2⟩ := e
      subst e1
      subst e2
      have q := h.S a k u0 u1
      have b1 := sA_b u0 u1
      have b2 := eA_b u0 u1
      have b3 := oA_b u0 u1
      have b4 := lA_b u0 u1
      have b5 := dA_b u0 u1
      refine ⟨?_, ?_, ?_, ?_, ?_, ?_, ?_, ?_, ?_, ?_, ?_, ?_⟩
      · rw [ud_ne (by omega), ud_ne (by omega), ud_ne (by omega), ud_ne (by omega), ud_ne (by omega), ud_ne (by omega), ud_ne (by omega), ud_ne (by omega)] <;> (first | exact q.1 | omega)
      · rw [ud_ne (by omega), ud_ne (by omega), ud_ne (by omega), ud_ne (by omega), ud_ne (by omega), ud_ne (by omega), ud_ne (by omega), ud_ne (by omega)] <;> (first | exact q.2.1 | omega)
      · rw [ud_ne (by omega), ud_ne (by omega), ud_ne (by omega), ud_ne (by omega), ud_ne (by omega), ud_ne (by omega), ud_ne (by omega), ud_ne (by omega)] <;> (first | exact q.2.2.1 | omega)
      · rw [ud_ne (by omega), ud_ne (by omega), ud_ne (by omega), ud_eq, ud_ne (by omega), ud_ne (by omega), ud_ne (by omega), ud_eq] <;> (first | exact q.2.2.2.1 | omega)
      · rw [ud_ne (by omega), ud_ne (by omega), ud_eq, ud_ne (by omega), ud_ne (by omega), ud_eq] <;> (first | exact q.2.2.2.2.1 | omega)
      · rw [ud_ne (by omega), ud_ne (by omega), ud_ne (by omega), ud_ne (by omega), ud_ne (by omega), ud_ne (by omega), ud_ne (by omega), ud_ne (by omega), ud_ne (by omega), ud_ne (by omega), ud_ne (by omega), ud_ne (by omega)] <;> (first | exact q.2.2.2.2.2.1 | (unfold EA at *; omega))
      · rw [ud_ne (by omega), ud_ne (by omega), ud_ne (by omega), ud_ne (by omega), ud_ne (by omega), ud_ne (by omega), ud_ne (by omega), ud_ne (by omega)] <;> (first | exact q.2.2.2.2.2.2.1 | omega)
      · rw [ud_ne (by omega), ud_ne (by omega), ud_ne (by omega), ud_ne (by omega), ud_ne (by omega), ud_ne (by omega), ud_ne (by omega), ud_ne (by omega), ud_ne (by omega), ud_ne (by omega), ud_ne (by omega), ud_ne (by omega)] <;> (first | exact q.2.2.2.2.2.2.2.1 | (unfold EA at *; omega))
      · rw [ud_ne (by omega), ud_ne (by omega), ud_ne (by omega), ud_ne (by omega), ud_ne (by omega), ud_ne (by omega), ud_ne (by omega), ud_ne (by omega)] <;> (first | exact q.2.2.2.2.2.2.2.2.1 | omega)
      · rw [ud_ne (by omega), ud_ne (by omega), ud_ne (by omega), ud_ne (by omega), ud_ne (by omega), ud_ne (by omega), ud_ne (by omega), ud_ne (by omega)] <;> (first | exact q.2.2.2.2.2.2.2.2.2.1 | omega)
      · rw [ud_ne (by omega), ud_ne (by omega), ud_ne (by omega), ud_ne (by omega), ud_ne (by omega), ud_ne (by omega), ud_ne (by omega), ud_ne (by omega), ud_ne (by omega), ud_ne (by omega), ud_ne (by omega), ud_ne (by omega)] <;> (first | exact q.2.2.2.2.2.2.2.2.2.2.1 | (unfold EA at *; omega))
      · rw [ud_ne (by omega), ud_ne (by omega), ud_ne (by omega), ud_ne (by omega), ud_ne (by omega), ud_ne (by omega), ud_ne (by omega), ud_ne (by omega), ud_ne (by omega), ud_ne (by omega), ud_ne (by omega), ud_ne (by omega)] <;> (first | exact q.2.2.2.2.2.2.2.2.2.2.2 | (unfold EA at *; omega))
    · have d1 : sA a_ k_ + 12 ≤ sA a k ∨ sA a k + 12 ≤ sA a_ k_ := by unfold sA; omega
      have d2 : eA a_ k_ + 6 ≤ eA a k ∨ eA a k + 6 ≤ eA a_ k_ := by unfold eA; omega
      have d3 : oA a_ k_ + 2 ≤ oA a k ∨ oA a k + 2 ≤ oA a_ k_ := by unfold oA; omega
      have d4 : lA a_ k_ + 3 ≤ lA a k ∨ lA a k + 3 ≤ lA a_ k_ := by unfold lA; omega
      have d5 : dA a_ k_ + 1 ≤ dA a k ∨ dA a k + 1 ≤ dA a_ k_ := by unfold dA; omega
      have q := h.S a_ k_ u0 u1
      have b1 := sA_b u0 u1
      have b2 := eA_b u0 u1
      have b3 := oA_b u0 u1
      have b4 := lA_b u0 u1
      have b5 := dA_b u0 u1
      refine ⟨?_, ?_, ?_, ?_, ?_, ?_, ?_, ?_, ?_, ?_, ?_, ?_⟩
      · rw [ud_ne (by omega), ud_ne (by omega), ud_ne (by omega), ud_ne (by omega), ud_ne (by omega), ud_ne (by omega), ud_ne (by omega), ud_ne (by omega)] <;> (exact q.1)
      · rw [ud_ne (by omega), ud_ne (by omega), ud_ne (by omega), ud_ne (by omega), ud_ne (by omega), ud_ne (by omega), ud_ne (by omega), ud_ne (by omega)] <;> (exact q.2.1)
      · rw [ud_ne (by omega), ud_ne (by omega), ud_ne (by omega), ud_ne (by omega), ud_ne (by omega), ud_ne (by omega), ud_ne (by omega), ud_ne (by omega)] <;> (exact q.2.2.1)
      · rw [ud_ne (by omega), ud_ne (by omega), ud_ne (by omega), ud_ne (by omega), ud_ne (by omega), ud_ne (by omega), ud_ne (by omega), ud_ne (by omega)] <;> (exact q.2.2.2.1)
      · rw [ud_ne (by omega), ud_ne (by omega), ud_ne (by omega), ud_ne (by omega), ud_ne (by omega), ud_ne (by omega), ud_ne (by omega), ud_ne (by omega)] <;> (exact q.2.2.2.2.1)
      · rw [ud_ne (by omega), ud_ne (by omega), ud_ne (by omega), ud_ne (by omega), ud_ne (by omega), ud_ne (by omega), ud_ne (by omega), ud_ne (by omega), ud_ne (by omega), ud_ne (by omega), ud_ne (by omega), ud_ne (by omega)] <;> (exact q.2.2.2.2.2.1)
      · rw [ud_ne (by omega), ud_ne (by omega), ud_ne (by omega), ud_ne (by omega), ud_ne (by omega), ud_ne (by omega), ud_ne (by omega), ud_ne (by omega)] <;> (exact q.2.2.2.2.2.2.1)
      · rw [ud_ne (by omega), ud_ne (by omega), ud_ne (by omega), ud_ne (by omega), ud_ne (by omega), ud_ne (by omega), ud_ne (by omega), ud_ne (by omega), ud_ne (by omega), ud_ne (by omega), ud_ne (by omega), ud_ne (by omega)] <;> (exact q.2.2.2.2.2.2.2.1)
      · rw [ud_ne (by omega), ud_ne (by omega), ud_ne (by omega), ud_ne (by omega), ud_ne (by omega), ud_ne (by omega), ud_ne (by omega), ud_ne (by omega)] <;> (exact q.2.2.2.2.2.2.2.2.1)
      · rw [ud_ne (by omega), ud_ne (by omega), ud_ne (by omega), ud_ne (by omega), ud_ne (by omega), ud_ne (by omega), ud_ne (by omega), ud_ne (by omega)] <;> (exact q.2.2.2.2.2.2.2.2.2.1)
      · rw [ud_ne (by omega), ud_ne (by omega), ud_ne (by omega), ud_ne (by omega), ud_ne (by omega), ud_ne (by omega), ud_ne (by omega), ud_ne (by omega), ud_ne (by omega), ud_ne (by omega), ud_ne (by omega), ud_ne (by omega)] <;> (exact q.2.2.2.2.2.2.2.2.2.2.1)
      · rw [ud_ne (by omega), ud_ne (by omega), ud_ne (by omega), ud_ne (by omega), ud_ne (by omega), ud_ne (by omega), ud_ne (by omega), ud_ne (by omega), ud_ne (by omega), ud_ne (by omega), ud_ne (by omega), ud_ne (by omega)] <;> (exact q.2.2.2.2.2.2.2.2.2.2.2)
  have hZ_ : SmZ (ud (ud (ud (ud f (sA a k + 3) (f 0)) (sA a k + 4) (f (sA a k + 4) + 1)) (20 + k) (f (20 + k) + 1)) 10 (f 10 + 1)) := by
    intro j u0
    rw [ud_ne (by omega), ud_ne (by omega), ud_ne (by omega), ud_ne (by omega)]
    exact h.Z j u0
  exact ⟨hA_, hT_, hL_, hE_, hP_, hO_, hC_, hM_, hV_, hW_, hJ_, hH_, hS_, hZ_⟩
set_option maxHeartbeats 4000000 in
theorem sm_old  (h : Sm0 f g) (hI : IM B g) : Sm0 (ud f 13 (f 13 + 1)) (ud g 19 (g 19 + 1)) := by
  have l3 : f 13 = g 19 := h.L 3 (by omega)
  have hA_ : SmA (ud f 13 (f 13 + 1)) (ud g 19 (g 19 + 1)) := by
    have q := h.A
    unfold SmA at q
    refine ⟨?_, ?_, ?_⟩
    · rw [ud_ne (by omega), ud_ne (by omega)]; omega
    · rw [ud_ne (by omega), ud_ne (by omega)]; omega
    · rw [ud_ne (by omega), ud_ne (by omega)]; omega
  have hT_ : SmT (ud f 13 (f 13 + 1)) (ud g 19 (g 19 + 1)) := by
    intro i u0
    rw [ud_ne (by omega), ud_ne (by omega)]
    exact h.T i u0
  have hL_ : SmL (ud f 13 (f 13 + 1)) (ud g 19 (g 19 + 1)) := by
    intro i u0
    rcases Decidable.em (3 = i) with e | e
    · subst e
      have q := h.L 3 u0
      rw [ud_at (by omega), ud_at (by omega)] <;> (first | exact q | omega | (simp only [Int.add_zero] at *; omega))
    · skip
      rw [ud_ne (by omega), ud_ne (by omega)]
      exact h.L i u0
  have hE_ : SmE (ud f 13 (f 13 + 1)) (ud g 19 (g 19 + 1)) := by
    intro k_ u0
    rw [ud_ne (by omega), ud_ne (by omega)]
    exact h.E k_ u0
  have hP_ : SmP (ud f 13 (f 13 + 1)) (ud g 19 (g 19 + 1)) := by
    intro r_ u0
    rw [ud_ne (by omega), ud_ne (by omega)]
    exact h.P r_ u0
  have hO_ : SmO (ud f 13 (f 13 + 1)) (ud g 19 (g 19 + 1)) := by
    intro r_ u0
    rw [ud_ne (by omega), ud_ne (by omega)]
    exact h.O r_ u0
  have hC_ : SmC (ud f 13 (f 13 + 1)) (ud g 19 (g 19 + 1)) := by
    intro a_ u0
    rw [ud_ne (by omega), ud_ne (by omega)]
    exact h.C a_ u0
  have hM_ : SmM (ud f 13 (f 13 + 1)) (ud g 19 (g 19 + 1)) := by
    intro r_ k_ u0 u1
    rw [ud_ne (by omega), ud_ne (by omega)]
    exact h.M r_ k_ u0 u1
  have hJ_ : SmJ (ud f 13 (f 13 + 1)) (ud g 19 (g 19 + 1)) := by
    intro n i u0 u1
    have hj := jA_b u0
    rw [ud_ne (by omega), ud_ne (by omega)]
    exact h.J n i u0 u1
  have hK : ∀ n, 1 ≤ n ∧ n ≤ 60 → (ud g 19 (g 19 + 1)) (36 + 3 * (n - 1)) = g (36 + 3 * (n - 1)) := by
    intro n u0
    rw [ud_ne (by omega)]
  have hV_ : SmV (ud f 13 (f 13 + 1)) (ud g 19 (g 19 + 1)) := by
    intro r_ k_ u0 u1
    rw [lastI_cong hK (by rw [ud_ne (by omega)]; exact (hI.n60 (by omega)).2)]
    rw [ud_ne (by omega), ud_ne (by omega)]
    exact h.V r_ k_ u0 u1
  have hW_ : SmW (ud f 13 (f 13 + 1)) (ud g 19 (g 19 + 1)) := by
    intro k_ u0
    rw [lastI_cong hK (by rw [ud_ne (by omega)]; exact (hI.n60 (by omega)).2)]
    rw [ud_ne (by omega), ud_ne (by omega)]
    exact h.W k_ u0
  have hH_ : SmH (ud f 13 (f 13 + 1)) (ud g 19 (g 19 + 1)) := by
    intro c_ u0
    have q := h.H c_ u0
    have hc1 := cA_b (c := c_) u0
    have hc2 := hA_b (c := c_) u0
    have w1 : (ud f 13 (f 13 + 1)) (cA c_ + 7) = f (cA c_ + 7) := by rw [ud_ne (by omega)]
    have w2 : (ud f 13 (f 13 + 1)) (cA c_ + 1) = f (cA c_ + 1) := by rw [ud_ne (by omega)]
    have w3 : (ud f 13 (f 13 + 1)) (cA c_ + 3) = f (cA c_ + 3) := by rw [ud_ne (by omega)]
    have w4 : (ud g 19 (g 19 + 1)) (hA c_ + 1) = g (hA c_ + 1) := by rw [ud_ne (by omega)]
    have w5 : (ud g 19 (g 19 + 1)) (hA c_ + 3) = g (hA c_ + 3) := by rw [ud_ne (by omega)]
    have x0 : (ud f 13 (f 13 + 1)) (cA c_ + 0) = (ud g 19 (g 19 + 1)) (hA c_ + 0) := by
      rw [ud_ne (by omega), ud_ne (by omega)] <;> (first | omega | exact q.1)
    have x1 : (ud f 13 (f 13 + 1)) (cA c_ + 2) = (ud g 19 (g 19 + 1)) (hA c_ + 2) := by
      rw [ud_ne (by omega), ud_ne (by omega)] <;> (first | omega | exact q.2.1)
    have x2 : (ud f 13 (f 13 + 1)) (cA c_ + 4) = (ud g 19 (g 19 + 1)) (hA c_ + 4) := by
      rw [ud_ne (by omega), ud_ne (by omega)] <;> (first | omega | exact q.2.2.1)
    have x3 : (ud f 13 (f 13 + 1)) (cA c_ + 5) = (ud g 19 (g 19 + 1)) (hA c_ + 5) := by
      rw [ud_ne (by omega), ud_ne (by omega)] <;> (first | omega | exact q.2.2.2.1)
    have x4 : (ud f 13 (f 13 + 1)) (cA c_ + 6) = (ud g 19 (g 19 + 1)) (hA c_ + 6) := by
      rw [ud_ne (by omega), ud_ne (by omega)] <;> (first | omega | exact q.2.2.2.2.1)
    refine ⟨x0, x1, x2, x3, x4, ?_, ?_⟩
    · rw [w2]; omega
    · rw [w1, w2, w3, w4, w5]; omega
  have hS_ : SmS (ud f 13 (f 13 + 1)) (ud g 19 (g 19 + 1)) := by
    intro a_ k_ u0 u1
    have q := h.S a_ k_ u0 u1
    have b1 := sA_b u0 u1
    have b2 := eA_b u0 u1
    have b3 := oA_b u0 u1
    have b4 := lA_b u0 u1
    have b5 := dA_b u0 u1
    refine ⟨?_, ?_, ?_, ?_, ?_, ?_, ?_, ?_, ?_, ?_, ?_, ?_⟩
    · rw [ud_ne (by omega), ud_ne (by omega)] <;> (exact q.1)
    · rw [ud_ne (by omega), ud_ne (by omega)] <;> (exact q.2.1)
    · rw [ud_ne (by omega), ud_ne (by omega)] <;> (exact q.2.2.1)
    · rw [ud_ne (by omega), ud_ne (by omega)] <;> (exact q.2.2.2.1)
    · rw [ud_ne (by omega), ud_ne (by omega)] <;> (exact q.2.2.2.2.1)
    · rw [ud_ne (by omega), ud_ne (by omega), ud_ne (by omega)] <;> (exact q.2.2.2.2.2.1)
    · rw [ud_ne (by omega), ud_ne (by omega)] <;> (exact q.2.2.2.2.2.2.1)
    · rw [ud_ne (by omega), ud_ne (by omega), ud_ne (by omega)] <;> (exact q.2.2.2.2.2.2.2.1)
    · rw [ud_ne (by omega), ud_ne (by omega)] <;> (exact q.2.2.2.2.2.2.2.2.1)
    · rw [ud_ne (by omega), ud_ne (by omega)] <;> (exact q.2.2.2.2.2.2.2.2.2.1)
    · rw [ud_ne (by omega), ud_ne (by omega), ud_ne (by omega)] <;> (exact q.2.2.2.2.2.2.2.2.2.2.1)
    · rw [ud_ne (by omega), ud_ne (by omega), ud_ne (by omega)] <;> (exact q.2.2.2.2.2.2.2.2.2.2.2)
  have hZ_ : SmZ (ud f 13 (f 13 + 1)) := by
    intro j u0
    rw [ud_ne (by omega)]
    exact h.Z j u0
  exact ⟨hA_, hT_, hL_, hE_, hP_, hO_, hC_, hM_, hV_, hW_, hJ_, hH_, hS_, hZ_⟩
set_option maxHeartbeats 4000000 in
theorem sm_wait  (h : Sm0 f g) (hI : IM B g) : Sm0 (ud f 12 (f 12 + 1)) (ud g 18 (g 18 + 1)) := by
  have l2 : f 12 = g 18 := h.L 2 (by omega)
  have hA_ : SmA (ud f 12 (f 12 + 1)) (ud g 18 (g 18 + 1)) := by
    have q := h.A
    unfold SmA at q
    refine ⟨?_, ?_, ?_⟩
    · rw [ud_ne (by omega), ud_ne (by omega)]; omega
    · rw [ud_ne (by omega), ud_ne (by omega)]; omega
    · rw [ud_ne (by omega), ud_ne (by omega)]; omega
  have hT_ : SmT (ud f 12 (f 12 + 1)) (ud g 18 (g 18 + 1)) := by
    intro i u0
    rw [ud_ne (by omega), ud_ne (by omega)]
    exact h.T i u0
  have hL_ : SmL (ud f 12 (f 12 + 1)) (ud g 18 (g 18 + 1)) := by
    intro i u0
    rcases Decidable.em (2 = i) with e | e
    · subst e
      have q := h.L 2 u0
      rw [ud_at (by omega), ud_at (by omega)] <;> (first | exact q | omega | (simp only [Int.add_zero] at *; omega))
    · skip
      rw [ud_ne (by omega), ud_ne (by omega)]
      exact h.L i u0
  have hE_ : SmE (ud f 12 (f 12 + 1)) (ud g 18 (g 18 + 1)) := by
    intro k_ u0
    rw [ud_ne (by omega), ud_ne (by omega)]
    exact h.E k_ u0
  have hP_ : SmP (ud f 12 (f 12 + 1)) (ud g 18 (g 18 + 1)) := by
    intro r_ u0
    rw [ud_ne (by omega), ud_ne (by omega)]
    exact h.P r_ u0
  have hO_ : SmO (ud f 12 (f 12 + 1)) (ud g 18 (g 18 + 1)) := by
    intro r_ u0
    rw [ud_ne (by omega), ud_ne (by omega)]
    exact h.O r_ u0
  have hC_ : SmC (ud f 12 (f 12 + 1)) (ud g 18 (g 18 + 1)) := by
    intro a_ u0
    rw [ud_ne (by omega), ud_ne (by omega)]
    exact h.C a_ u0
  have hM_ : SmM (ud f 12 (f 12 + 1)) (ud g 18 (g 18 + 1)) := by
    intro r_ k_ u0 u1
    rw [ud_ne (by omega), ud_ne (by omega)]
    exact h.M r_ k_ u0 u1
  have hJ_ : SmJ (ud f 12 (f 12 + 1)) (ud g 18 (g 18 + 1)) := by
    intro n i u0 u1
    have hj := jA_b u0
    rw [ud_ne (by omega), ud_ne (by omega)]
    exact h.J n i u0 u1
  have hK : ∀ n, 1 ≤ n ∧ n ≤ 60 → (ud g 18 (g 18 + 1)) (36 + 3 * (n - 1)) = g (36 + 3 * (n - 1)) := by
    intro n u0
    rw [ud_ne (by omega)]
  have hV_ : SmV (ud f 12 (f 12 + 1)) (ud g 18 (g 18 + 1)) := by
    intro r_ k_ u0 u1
    rw [lastI_cong hK (by rw [ud_ne (by omega)]; exact (hI.n60 (by omega)).2)]
    rw [ud_ne (by omega), ud_ne (by omega)]
    exact h.V r_ k_ u0 u1
  have hW_ : SmW (ud f 12 (f 12 + 1)) (ud g 18 (g 18 + 1)) := by
    intro k_ u0
    rw [lastI_cong hK (by rw [ud_ne (by omega)]; exact (hI.n60 (by omega)).2)]
    rw [ud_ne (by omega), ud_ne (by omega)]
    exact h.W k_ u0
  have hH_ : SmH (ud f 12 (f 12 + 1)) (ud g 18 (g 18 + 1)) := by
    intro c_ u0
    have q := h.H c_ u0
    have hc1 := cA_b (c := c_) u0
    have hc2 := hA_b (c := c_) u0
    have w1 : (ud f 12 (f 12 + 1)) (cA c_ + 7) = f (cA c_ + 7) := by rw [ud_ne (by omega)]
    have w2 : (ud f 12 (f 12 + 1)) (cA c_ + 1) = f (cA c_ + 1) := by rw [ud_ne (by omega)]
    have w3 : (ud f 12 (f 12 + 1)) (cA c_ + 3) = f (cA c_ + 3) := by rw [ud_ne (by omega)]
    have w4 : (ud g 18 (g 18 + 1)) (hA c_ + 1) = g (hA c_ + 1) := by rw [ud_ne (by omega)]
    have w5 : (ud g 18 (g 18 + 1)) (hA c_ + 3) = g (hA c_ + 3) := by rw [ud_ne (by omega)]
    have x0 : (ud f 12 (f 12 + 1)) (cA c_ + 0) = (ud g 18 (g 18 + 1)) (hA c_ + 0) := by
      rw [ud_ne (by omega), ud_ne (by omega)] <;> (first | omega | exact q.1)
    have x1 : (ud f 12 (f 12 + 1)) (cA c_ + 2) = (ud g 18 (g 18 + 1)) (hA c_ + 2) := by
      rw [ud_ne (by omega), ud_ne (by omega)] <;> (first | omega | exact q.2.1)
    have x2 : (ud f 12 (f 12 + 1)) (cA c_ + 4) = (ud g 18 (g 18 + 1)) (hA c_ + 4) := by
      rw [ud_ne (by omega), ud_ne (by omega)] <;> (first | omega | exact q.2.2.1)
    have x3 : (ud f 12 (f 12 + 1)) (cA c_ + 5) = (ud g 18 (g 18 + 1)) (hA c_ + 5) := by
      rw [ud_ne (by omega), ud_ne (by omega)] <;> (first | omega | exact q.2.2.2.1)
    have x4 : (ud f 12 (f 12 + 1)) (cA c_ + 6) = (ud g 18 (g 18 + 1)) (hA c_ + 6) := by
      rw [ud_ne (by omega), ud_ne (by omega)] <;> (first | omega | exact q.2.2.2.2.1)
    refine ⟨x0, x1, x2, x3, x4, ?_, ?_⟩
    · rw [w2]; omega
    · rw [w1, w2, w3, w4, w5]; omega
  have hS_ : SmS (ud f 12 (f 12 + 1)) (ud g 18 (g 18 + 1)) := by
    intro a_ k_ u0 u1
    have q := h.S a_ k_ u0 u1
    have b1 := sA_b u0 u1
    have b2 := eA_b u0 u1
    have b3 := oA_b u0 u1
    have b4 := lA_b u0 u1
    have b5 := dA_b u0 u1
    refine ⟨?_, ?_, ?_, ?_, ?_, ?_, ?_, ?_, ?_, ?_, ?_, ?_⟩
    · rw [ud_ne (by omega), ud_ne (by omega)] <;> (exact q.1)
    · rw [ud_ne (by omega), ud_ne (by omega)] <;> (exact q.2.1)
    · rw [ud_ne (by omega), ud_ne (by omega)] <;> (exact q.2.2.1)
    · rw [ud_ne (by omega), ud_ne (by omega)] <;> (exact q.2.2.2.1)
    · rw [ud_ne (by omega), ud_ne (by omega)] <;> (exact q.2.2.2.2.1)
    · rw [ud_ne (by omega), ud_ne (by omega), ud_ne (by omega)] <;> (exact q.2.2.2.2.2.1)
    · rw [ud_ne (by omega), ud_ne (by omega)] <;> (exact q.2.2.2.2.2.2.1)
    · rw [ud_ne (by omega), ud_ne (by omega), ud_ne (by omega)] <;> (exact q.2.2.2.2.2.2.2.1)
    · rw [ud_ne (by omega), ud_ne (by omega)] <;> (exact q.2.2.2.2.2.2.2.2.1)
    · rw [ud_ne (by omega), ud_ne (by omega)] <;> (exact q.2.2.2.2.2.2.2.2.2.1)
    · rw [ud_ne (by omega), ud_ne (by omega), ud_ne (by omega)] <;> (exact q.2.2.2.2.2.2.2.2.2.2.1)
    · rw [ud_ne (by omega), ud_ne (by omega), ud_ne (by omega)] <;> (exact q.2.2.2.2.2.2.2.2.2.2.2)
  have hZ_ : SmZ (ud f 12 (f 12 + 1)) := by
    intro j u0
    rw [ud_ne (by omega)]
    exact h.Z j u0
  exact ⟨hA_, hT_, hL_, hE_, hP_, hO_, hC_, hM_, hV_, hW_, hJ_, hH_, hS_, hZ_⟩
set_option maxHeartbeats 4000000 in
theorem sm_lease {c : Int} (hc : 0 ≤ c ∧ c < 6) {a k : Int} (ha : 0 ≤ a ∧ a < 6) (hk : 0 ≤ k ∧ k < 10) (h : Sm0 f g) (hI : IM B g) : Sm0 (ud (ud (ud (ud (ud (ud (ud (ud (ud f 2 (f 2 + 1)) (sA a k + 8) c) (sA a k + 9) (f 2 + 1)) (sA a k + 10) (f 0 + f 6)) (cA c + 7) 1) (cA c + 1) k) (cA c + 2) (f 2 + 1)) (cA c + 3) 0) 11 (f 11 + 1)) (ud (ud (ud (ud (ud (ud (ud (ud (ud g (hA c + 1) k) (hA c + 2) 0) (hA c + 3) 0) 1 (g 1 + 1)) (hA c + 2) (g 1 + 1)) (lA a k) (g 0 + g 6)) (lA a k + 1) c) (lA a k + 2) (g 1 + 1)) 17 (g 17 + 1)) := by
  have p1 := sA_b ha hk
  have p2 := eA_b ha hk
  have p3 := oA_b ha hk
  have p4 := lA_b ha hk
  have p5 := dA_b ha hk
  have p6 := h.S a k ha hk
  have p7 := h.A
  unfold SmA at p7
  have pc1 := cA_b hc
  have pc2 := hA_b hc
  have pc3 := h.H c hc
  have l1 : f 11 = g 17 := h.L 1 (by omega)
  have t3 : f 6 = g 6 := h.T 3 (by omega)
  have hA_ : SmA (ud (ud (ud (ud (ud (ud (ud (ud (ud f 2 (f 2 + 1)) (sA a k + 8) c) (sA a k + 9) (f 2 + 1)) (sA a k + 10) (f 0 + f 6)) (cA c + 7) 1) (cA c + 1) k) (cA c + 2) (f 2 + 1)) (cA c + 3) 0) 11 (f 11 + 1)) (ud (ud (ud (ud (ud (ud (ud (ud (ud g (hA c + 1) k) (hA c + 2) 0) (hA c + 3) 0) 1 (g 1 + 1)) (hA c + 2) (g 1 + 1)) (lA a k) (g 0 + g 6)) (lA a k + 1) c) (lA a k + 2) (g 1 + 1)) 17 (g 17 + 1)) := by
    have q := h.A
    unfold SmA at q
    refine ⟨?_, ?_, ?_⟩
    · rw [ud_ne (by omega), ud_ne (by omega), ud_ne (by omega), ud_ne (by omega), ud_ne (by omega), ud_ne (by omega), ud_ne (by omega), ud_ne (by omega), ud_ne (by omega), ud_ne (by omega), ud_ne (by omega), ud_ne (by omega), ud_ne (by omega), ud_ne (by omega), ud_ne (by omega), ud_ne (by omega), ud_ne (by omega), ud_ne (by omega)]; omega
    · rw [ud_ne (by omega), ud_ne (by omega), ud_ne (by omega), ud_ne (by omega), ud_ne (by omega), ud_ne (by omega), ud_ne (by omega), ud_ne (by omega), ud_ne (by omega), ud_ne (by omega), ud_ne (by omega), ud_ne (by omega), ud_ne (by omega), ud_ne (by omega), ud_ne (by omega), ud_ne (by omega), ud_ne (by omega), ud_ne (by omega)]; omega
    · rw [ud_ne (by omega), ud_ne (by omega), ud_ne (by omega), ud_ne (by omega), ud_ne (by omega), ud_ne (by omega), ud_ne (by omega), ud_ne (by omega), ud_eq, ud_ne (by omega), ud_ne (by omega), ud_ne (by omega), ud_ne (by omega), ud_ne (by omega), ud_eq]; omega
  have hT_ : SmT (ud (ud (ud (ud (ud (ud (ud (ud (ud f 2 (f 2 + 1)) (sA a k + 8) c) (sA a k + 9) (f 2 + 1)) (sA a k + 10) (f 0 + f 6)) (cA c + 7) 1) (cA c + 1) k) (cA c + 2) (f 2 + 1)) (cA c + 3) 0) 11 (f 11 + 1)) (ud (ud (ud (ud (ud (ud (ud (ud (ud g (hA c + 1) k) (hA c + 2) 0) (hA c + 3) 0) 1 (g 1 + 1)) (hA c + 2) (g 1 + 1)) (lA a k) (g 0 + g 6)) (lA a k + 1) c) (lA a k + 2) (g 1 + 1)) 17 (g 17 + 1)) := by
    intro i u0
    rw [ud_ne (by omega), ud_ne (by omega), ud_ne (by omega), ud_ne (by omega), ud_ne (by omega), ud_ne (by omega), ud_ne (by omega), ud_ne (by omega), ud_ne (by omega), ud_ne (by omega), ud_ne (by omega), ud_ne (by omega), ud_ne (by omega), ud_ne (by omega), ud_ne (by omega), ud_ne (by omega), ud_ne (by omega), ud_ne (by omega)]
    exact h.T i u0
  have hL_ : SmL (ud (ud (ud (ud (ud (ud (ud (ud (ud f 2 (f 2 + 1)) (sA a k + 8) c) (sA a k + 9) (f 2 + 1)) (sA a k + 10) (f 0 + f 6)) (cA c + 7) 1) (cA c + 1) k) (cA c + 2) (f 2 + 1)) (cA c + 3) 0) 11 (f 11 + 1)) (ud (ud (ud (ud (ud (ud (ud (ud (ud g (hA c + 1) k) (hA c + 2) 0) (hA c + 3) 0) 1 (g 1 + 1)) (hA c + 2) (g 1 + 1)) (lA a k) (g 0 + g 6)) (lA a k + 1) c) (lA a k + 2) (g 1 + 1)) 17 (g 17 + 1)) := by
    intro i u0
    rcases Decidable.em (1 = i) with e | e
    · subst e
      have q := h.L 1 u0
      rw [ud_at (by omega), ud_at (by omega)] <;> (first | exact q | omega | (simp only [Int.add_zero] at *; omega))
    · skip
      rw [ud_ne (by omega), ud_ne (by omega), ud_ne (by omega), ud_ne (by omega), ud_ne (by omega), ud_ne (by omega), ud_ne (by omega), ud_ne (by omega), ud_ne (by omega), ud_ne (by omega), ud_ne (by omega), ud_ne (by omega), ud_ne (by omega), ud_ne (by omega), ud_ne (by omega), ud_ne (by omega), ud_ne (by omega), ud_ne (by omega)]
      exact h.L i u0
  have hE_ : SmE (ud (ud (ud (ud (ud (ud (ud (ud (ud f 2 (f 2 + 1)) (sA a k + 8) c) (sA a k + 9) (f 2 + 1)) (sA a k + 10) (f 0 + f 6)) (cA c + 7) 1) (cA c + 1) k) (cA c + 2) (f 2 + 1)) (cA c + 3) 0) 11 (f 11 + 1)) (ud (ud (ud (ud (ud (ud (ud (ud (ud g (hA c + 1) k) (hA c + 2) 0) (hA c + 3) 0) 1 (g 1 + 1)) (hA c + 2) (g 1 + 1)) (lA a k) (g 0 + g 6)) (lA a k + 1) c) (lA a k + 2) (g 1 + 1)) 17 (g 17 + 1)) := by
    intro k_ u0
    rw [ud_ne (by omega), ud_ne (by omega), ud_ne (by omega), ud_ne (by omega), ud_ne (by omega), ud_ne (by omega), ud_ne (by omega), ud_ne (by omega), ud_ne (by omega), ud_ne (by omega), ud_ne (by omega), ud_ne (by omega), ud_ne (by omega), ud_ne (by omega), ud_ne (by omega), ud_ne (by omega), ud_ne (by omega), ud_ne (by omega)]
    exact h.E k_ u0
  have hP_ : SmP (ud (ud (ud (ud (ud (ud (ud (ud (ud f 2 (f 2 + 1)) (sA a k + 8) c) (sA a k + 9) (f 2 + 1)) (sA a k + 10) (f 0 + f 6)) (cA c + 7) 1) (cA c + 1) k) (cA c + 2) (f 2 + 1)) (cA c + 3) 0) 11 (f 11 + 1)) (ud (ud (ud (ud (ud (ud (ud (ud (ud g (hA c + 1) k) (hA c + 2) 0) (hA c + 3) 0) 1 (g 1 + 1)) (hA c + 2) (g 1 + 1)) (lA a k) (g 0 + g 6)) (lA a k + 1) c) (lA a k + 2) (g 1 + 1)) 17 (g 17 + 1)) := by
    intro r_ u0
    rw [ud_ne (by omega), ud_ne (by omega), ud_ne (by omega), ud_ne (by omega), ud_ne (by omega), ud_ne (by omega), ud_ne (by omega), ud_ne (by omega), ud_ne (by omega), ud_ne (by omega), ud_ne (by omega), ud_ne (by omega), ud_ne (by omega), ud_ne (by omega), ud_ne (by omega), ud_ne (by omega), ud_ne (by omega), ud_ne (by omega)]
    exact h.P r_ u0
  have hO_ : SmO (ud (ud (ud (ud (ud (ud (ud (ud (ud f 2 (f 2 + 1)) (sA a k + 8) c) (sA a k + 9) (f 2 + 1)) (sA a k + 10) (f 0 + f 6)) (cA c + 7) 1) (cA c + 1) k) (cA c + 2) (f 2 + 1)) (cA c + 3) 0) 11 (f 11 + 1)) (ud (ud (ud (ud (ud (ud (ud (ud (ud g (hA c + 1) k) (hA c + 2) 0) (hA c + 3) 0) 1 (g 1 + 1)) (hA c + 2) (g 1 + 1)) (lA a k) (g 0 + g 6)) (lA a k + 1) c) (lA a k + 2) (g 1 + 1)) 17 (g 17 + 1)) := by
    intro r_ u0
    rw [ud_ne (by omega), ud_ne (by omega), ud_ne (by omega), ud_ne (by omega), ud_ne (by omega), ud_ne (by omega), ud_ne (by omega), ud_ne (by omega), ud_ne (by omega), ud_ne (by omega), ud_ne (by omega), ud_ne (by omega), ud_ne (by omega), ud_ne (by omega), ud_ne (by omega), ud_ne (by omega), ud_ne (by omega), ud_ne (by omega)]
    exact h.O r_ u0
  have hC_ : SmC (ud (ud (ud (ud (ud (ud (ud (ud (ud f 2 (f 2 + 1)) (sA a k + 8) c) (sA a k + 9) (f 2 + 1)) (sA a k + 10) (f 0 + f 6)) (cA c + 7) 1) (cA c + 1) k) (cA c + 2) (f 2 + 1)) (cA c + 3) 0) 11 (f 11 + 1)) (ud (ud (ud (ud (ud (ud (ud (ud (ud g (hA c + 1) k) (hA c + 2) 0) (hA c + 3) 0) 1 (g 1 + 1)) (hA c + 2) (g 1 + 1)) (lA a k) (g 0 + g 6)) (lA a k + 1) c) (lA a k + 2) (g 1 + 1)) 17 (g 17 + 1)) := by
    intro a_ u0
    rw [ud_ne (by omega), ud_ne (by omega), ud_ne (by omega), ud_ne (by omega), ud_ne (by omega), ud_ne (by omega), ud_ne (by omega), ud_ne (by omega), ud_ne (by omega), ud_ne (by omega), ud_ne (by omega), ud_ne (by omega), ud_ne (by omega), ud_ne (by omega), ud_ne (by omega), ud_ne (by omega), ud_ne (by omega), ud_ne (by omega)]
    exact h.C a_ u0
  have hM_ : SmM (ud (ud (ud (ud (ud (ud (ud (ud (ud f 2 (f 2 + 1)) (sA a k + 8) c) (sA a k + 9) (f 2 + 1)) (sA a k + 10) (f 0 + f 6)) (cA c + 7) 1) (cA c + 1) k) (cA c + 2) (f 2 + 1)) (cA c + 3) 0) 11 (f 11 + 1)) (ud (ud (ud (ud (ud (ud (ud (ud (ud g (hA c + 1) k) (hA c + 2) 0) (hA c + 3) 0) 1 (g 1 + 1)) (hA c + 2) (g 1 + 1)) (lA a k) (g 0 + g 6)) (lA a k + 1) c) (lA a k + 2) (g 1 + 1)) 17 (g 17 + 1)) := by
    intro r_ k_ u0 u1
    rw [ud_ne (by omega), ud_ne (by omega), ud_ne (by omega), ud_ne (by omega), ud_ne (by omega), ud_ne (by omega), ud_ne (by omega), ud_ne (by omega), ud_ne (by omega), ud_ne (by omega), ud_ne (by omega), ud_ne (by omega), ud_ne (by omega), ud_ne (by omega), ud_ne (by omega), ud_ne (by omega), ud_ne (by omega), ud_ne (by omega)]
    exact h.M r_ k_ u0 u1
  have hJ_ : SmJ (ud (ud (ud (ud (ud (ud (ud (ud (ud f 2 (f 2 + 1)) (sA a k + 8) c) (sA a k + 9) (f 2 + 1)) (sA a k + 10) (f 0 + f 6)) (cA c + 7) 1) (cA c + 1) k) (cA c + 2) (f 2 + 1)) (cA c + 3) 0) 11 (f 11 + 1)) (ud (ud (ud (ud (ud (ud (ud (ud (ud g (hA c + 1) k) (hA c + 2) 0) (hA c + 3) 0) 1 (g 1 + 1)) (hA c + 2) (g 1 + 1)) (lA a k) (g 0 + g 6)) (lA a k + 1) c) (lA a k + 2) (g 1 + 1)) 17 (g 17 + 1)) := by
    intro n i u0 u1
    have hj := jA_b u0
    rw [ud_ne (by omega), ud_ne (by omega), ud_ne (by omega), ud_ne (by omega), ud_ne (by omega), ud_ne (by omega), ud_ne (by omega), ud_ne (by omega), ud_ne (by omega), ud_ne (by omega), ud_ne (by omega), ud_ne (by omega), ud_ne (by omega), ud_ne (by omega), ud_ne (by omega), ud_ne (by omega), ud_ne (by omega), ud_ne (by omega)]
    exact h.J n i u0 u1
  have hK : ∀ n, 1 ≤ n ∧ n ≤ 60 → (ud (ud (ud (ud (ud (ud (ud (ud (ud g (hA c + 1) k) (hA c + 2) 0) (hA c + 3) 0) 1 (g 1 + 1)) (hA c + 2) (g 1 + 1)) (lA a k) (g 0 + g 6)) (lA a k + 1) c) (lA a k + 2) (g 1 + 1)) 17 (g 17 + 1)) (36 + 3 * (n - 1)) = g (36 + 3 * (n - 1)) := by
    intro n u0
    rw [ud_ne (by omega), ud_ne (by omega), ud_ne (by omega), ud_ne (by omega), ud_ne (by omega), ud_ne (by omega), ud_ne (by omega), ud_ne (by omega), ud_ne (by omega)]
  have hV_ : SmV (ud (ud (ud (ud (ud (ud (ud (ud (ud f 2 (f 2 + 1)) (sA a k + 8) c) (sA a k + 9) (f 2 + 1)) (sA a k + 10) (f 0 + f 6)) (cA c + 7) 1) (cA c + 1) k) (cA c + 2) (f 2 + 1)) (cA c + 3) 0) 11 (f 11 + 1)) (ud (ud (ud (ud (ud (ud (ud (ud (ud g (hA c + 1) k) (hA c + 2) 0) (hA c + 3) 0) 1 (g 1 + 1)) (hA c + 2) (g 1 + 1)) (lA a k) (g 0 + g 6)) (lA a k + 1) c) (lA a k + 2) (g 1 + 1)) 17 (g 17 + 1)) := by
    intro r_ k_ u0 u1
    rw [lastI_cong hK (by rw [ud_ne (by omega), ud_ne (by omega), ud_ne (by omega), ud_ne (by omega), ud_ne (by omega), ud_ne (by omega), ud_ne (by omega), ud_ne (by omega), ud_ne (by omega)]; exact (hI.n60 (by omega)).2)]
    rw [ud_ne (by omega), ud_ne (by omega), ud_ne (by omega), ud_ne (by omega), ud_ne (by omega), ud_ne (by omega), ud_ne (by omega), ud_ne (by omega), ud_ne (by omega), ud_ne (by omega), ud_ne (by omega), ud_ne (by omega), ud_ne (by omega), ud_ne (by omega), ud_ne (by omega), ud_ne (by omega), ud_ne (by omega), ud_ne (by omega)]
    exact h.V r_ k_ u0 u1
  have hW_ : SmW (ud (ud (ud (ud (ud (ud (ud (ud (ud f 2 (f 2 + 1)) (sA a k + 8) c) (sA a k + 9) (f 2 + 1)) (sA a k + 10) (f 0 + f 6)) (cA c + 7) 1) (cA c + 1) k) (cA c + 2) (f 2 + 1)) (cA c + 3) 0) 11 (f 11 + 1)) (ud (ud (ud (ud (ud (ud (ud (ud (ud g (hA c + 1) k) (hA c + 2) 0) (hA c + 3) 0) 1 (g 1 + 1)) (hA c + 2) (g 1 + 1)) (lA a k) (g 0 + g 6)) (lA a k + 1) c) (lA a k + 2) (g 1 + 1)) 17 (g 17 + 1)) := by
    intro k_ u0
    rw [lastI_cong hK (by rw [ud_ne (by omega), ud_ne (by omega), ud_ne (by omega), ud_ne (by omega), ud_ne (by omega), ud_ne (by omega), ud_ne (by omega), ud_ne (by omega), ud_ne (by omega)]; exact (hI.n60 (by omega)).2)]
    rw [ud_ne (by omega), ud_ne (by omega), ud_ne (by omega), ud_ne (by omega), ud_ne (by omega), ud_ne (by omega), ud_ne (by omega), ud_ne (by omega), ud_ne (by omega), ud_ne (by omega), ud_ne (by omega), ud_ne (by omega), ud_ne (by omega), ud_ne (by omega), ud_ne (by omega), ud_ne (by omega), ud_ne (by omega), ud_ne (by omega)]
    exact h.W k_ u0
  have hH_ : SmH (ud (ud (ud (ud (ud (ud (ud (ud (ud f 2 (f 2 + 1)) (sA a k + 8) c) (sA a k + 9) (f 2 + 1)) (sA a k + 10) (f 0 + f 6)) (cA c + 7) 1) (cA c + 1) k) (cA c + 2) (f 2 + 1)) (cA c + 3) 0) 11 (f 11 + 1)) (ud (ud (ud (ud (ud (ud (ud (ud (ud g (hA c + 1) k) (hA c + 2) 0) (hA c + 3) 0) 1 (g 1 + 1)) (hA c + 2) (g 1 + 1)) (lA a k) (g 0 + g 6)) (lA a k + 1) c) (lA a k + 2) (g 1 + 1)) 17 (g 17 + 1)) := by
    intro c_ u0
    rcases Decidable.em (c = c_) with e | e
    · subst e
      have q := h.H c u0
      have hc1 := cA_b (c := c) u0
      have hc2 := hA_b (c := c) u0
      have w1 : (ud (ud (ud (ud (ud (ud (ud (ud (ud f 2 (f 2 + 1)) (sA a k + 8) c) (sA a k + 9) (f 2 + 1)) (sA a k + 10) (f 0 + f 6)) (cA c + 7) 1) (cA c + 1) k) (cA c + 2) (f 2 + 1)) (cA c + 3) 0) 11 (f 11 + 1)) (cA c + 7) = 1 := by rw [ud_ne (by omega), ud_ne (by omega), ud_ne (by omega), ud_ne (by omega), ud_eq]
      have w2 : (ud (ud (ud (ud (ud (ud (ud (ud (ud f 2 (f 2 + 1)) (sA a k + 8) c) (sA a k + 9) (f 2 + 1)) (sA a k + 10) (f 0 + f 6)) (cA c + 7) 1) (cA c + 1) k) (cA c + 2) (f 2 + 1)) (cA c + 3) 0) 11 (f 11 + 1)) (cA c + 1) = k := by rw [ud_ne (by omega), ud_ne (by omega), ud_ne (by omega), ud_eq]
      have w3 : (ud (ud (ud (ud (ud (ud (ud (ud (ud f 2 (f 2 + 1)) (sA a k + 8) c) (sA a k + 9) (f 2 + 1)) (sA a k + 10) (f 0 + f 6)) (cA c + 7) 1) (cA c + 1) k) (cA c + 2) (f 2 + 1)) (cA c + 3) 0) 11 (f 11 + 1)) (cA c + 3) = 0 := by rw [ud_ne (by omega), ud_eq]
      have w4 : (ud (ud (ud (ud (ud (ud (ud (ud (ud g (hA c + 1) k) (hA c + 2) 0) (hA c + 3) 0) 1 (g 1 + 1)) (hA c + 2) (g 1 + 1)) (lA a k) (g 0 + g 6)) (lA a k + 1) c) (lA a k + 2) (g 1 + 1)) 17 (g 17 + 1)) (hA c + 1) = k := by rw [ud_ne (by omega), ud_ne (by omega), ud_ne (by omega), ud_ne (by omega), ud_ne (by omega), ud_ne (by omega), ud_ne (by omega), ud_ne (by omega), ud_eq]
      have w5 : (ud (ud (ud (ud (ud (ud (ud (ud (ud g (hA c + 1) k) (hA c + 2) 0) (hA c + 3) 0) 1 (g 1 + 1)) (hA c + 2) (g 1 + 1)) (lA a k) (g 0 + g 6)) (lA a k + 1) c) (lA a k + 2) (g 1 + 1)) 17 (g 17 + 1)) (hA c + 3) = 0 := by rw [ud_ne (by omega), ud_ne (by omega), ud_ne (by omega), ud_ne (by omega), ud_ne (by omega), ud_ne (by omega), ud_eq]
      have x0 : (ud (ud (ud (ud (ud (ud (ud (ud (ud f 2 (f 2 + 1)) (sA a k + 8) c) (sA a k + 9) (f 2 + 1)) (sA a k + 10) (f 0 + f 6)) (cA c + 7) 1) (cA c + 1) k) (cA c + 2) (f 2 + 1)) (cA c + 3) 0) 11 (f 11 + 1)) (cA c + 0) = (ud (ud (ud (ud (ud (ud (ud (ud (ud g (hA c + 1) k) (hA c + 2) 0) (hA c + 3) 0) 1 (g 1 + 1)) (hA c + 2) (g 1 + 1)) (lA a k) (g 0 + g 6)) (lA a k + 1) c) (lA a k + 2) (g 1 + 1)) 17 (g 17 + 1)) (hA c + 0) := by
        rw [ud_ne (by omega), ud_ne (by omega), ud_ne (by omega), ud_ne (by omega), ud_ne (by omega), ud_ne (by omega), ud_ne (by omega), ud_ne (by omega), ud_ne (by omega), ud_ne (by omega), ud_ne (by omega), ud_ne (by omega), ud_ne (by omega), ud_ne (by omega), ud_ne (by omega), ud_ne (by omega), ud_ne (by omega), ud_ne (by omega)] <;> (first | omega | exact q.1)
      have x1 : (ud (ud (ud (ud (ud (ud (ud (ud (ud f 2 (f 2 + 1)) (sA a k + 8) c) (sA a k + 9) (f 2 + 1)) (sA a k + 10) (f 0 + f 6)) (cA c + 7) 1) (cA c + 1) k) (cA c + 2) (f 2 + 1)) (cA c + 3) 0) 11 (f 11 + 1)) (cA c + 2) = (ud (ud (ud (ud (ud (ud (ud (ud (ud g (hA c + 1) k) (hA c + 2) 0) (hA c + 3) 0) 1 (g 1 + 1)) (hA c + 2) (g 1 + 1)) (lA a k) (g 0 + g 6)) (lA a k + 1) c) (lA a k + 2) (g 1 + 1)) 17 (g 17 + 1)) (hA c + 2) := by
        rw [ud_ne (by omega), ud_ne (by omega), ud_eq, ud_ne (by omega), ud_ne (by omega), ud_ne (by omega), ud_ne (by omega), ud_eq] <;> (first | omega | exact q.2.1)
      have x2 : (ud (ud (ud (ud (ud (ud (ud (ud (ud f 2 (f 2 + 1)) (sA a k + 8) c) (sA a k + 9) (f 2 + 1)) (sA a k + 10) (f 0 + f 6)) (cA c + 7) 1) (cA c + 1) k) (cA c + 2) (f 2 + 1)) (cA c + 3) 0) 11 (f 11 + 1)) (cA c + 4) = (ud (ud (ud (ud (ud (ud (ud (ud (ud g (hA c + 1) k) (hA c + 2) 0) (hA c + 3) 0) 1 (g 1 + 1)) (hA c + 2) (g 1 + 1)) (lA a k) (g 0 + g 6)) (lA a k + 1) c) (lA a k + 2) (g 1 + 1)) 17 (g 17 + 1)) (hA c + 4) := by
        rw [ud_ne (by omega), ud_ne (by omega), ud_ne (by omega), ud_ne (by omega), ud_ne (by omega), ud_ne (by omega), ud_ne (by omega), ud_ne (by omega), ud_ne (by omega), ud_ne (by omega), ud_ne (by omega), ud_ne (by omega), ud_ne (by omega), ud_ne (by omega), ud_ne (by omega), ud_ne (by omega), ud_ne (by omega), ud_ne (by omega)] <;> (first | omega | exact q.2.2.1)
      have x3 : (ud (ud (ud (ud (ud (ud (ud (ud (ud f 2 (f 2 + 1)) (sA a k + 8) c) (sA a k + 9) (f 2 + 1)) (sA a k + 10) (f 0 + f 6)) (cA c + 7) 1) (cA c + 1) k) (cA c + 2) (f 2 + 1)) (cA c + 3) 0) 11 (f 11 + 1)) (cA c + 5) = (ud (ud (ud (ud (ud (ud (ud (ud (ud g (hA c + 1) k) (hA c + 2) 0) (hA c + 3) 0) 1 (g 1 + 1)) (hA c + 2) (g 1 + 1)) (lA a k) (g 0 + g 6)) (lA a k + 1) c) (lA a k + 2) (g 1 + 1)) 17 (g 17 + 1)) (hA c + 5) := by
        rw [ud_ne (by omega), ud_ne (by omega), ud_ne (by omega), ud_ne (by omega), ud_ne (by omega), ud_ne (by omega), ud_ne (by omega), ud_ne (by omega), ud_ne (by omega), ud_ne (by omega), ud_ne (by omega), ud_ne (by omega), ud_ne (by omega), ud_ne (by omega), ud_ne (by omega), ud_ne (by omega), ud_ne (by omega), ud_ne (by omega)] <;> (first | omega | exact q.2.2.2.1)
      have x4 : (ud (ud (ud (ud (ud (ud (ud (ud (ud f 2 (f 2 + 1)) (sA a k + 8) c) (sA a k + 9) (f 2 + 1)) (sA a k + 10) (f 0 + f 6)) (cA c + 7) 1) (cA c + 1) k) (cA c + 2) (f 2 + 1)) (cA c + 3) 0) 11 (f 11 + 1)) (cA c + 6) = (ud (ud (ud (ud (ud (ud (ud (ud (ud g (hA c + 1) k) (hA c + 2) 0) (hA c + 3) 0) 1 (g 1 + 1)) (hA c + 2) (g 1 + 1)) (lA a k) (g 0 + g 6)) (lA a k + 1) c) (lA a k + 2) (g 1 + 1)) 17 (g 17 + 1)) (hA c + 6) := by
        rw [ud_ne (by omega), ud_ne (by omega), ud_ne (by omega), ud_ne (by omega), ud_ne (by omega), ud_ne (by omega), ud_ne (by omega), ud_ne (by omega), ud_ne (by omega), ud_ne (by omega), ud_ne (by omega), ud_ne (by omega), ud_ne (by omega), ud_ne (by omega), ud_ne (by omega), ud_ne (by omega), ud_ne (by omega), ud_ne (by omega)] <;> (first | omega | exact q.2.2.2.2.1)
      refine ⟨x0, x1, x2, x3, x4, ?_, ?_⟩
      · rw [w2]; omega
      · rw [w1, w2, w3, w4, w5]; omega
    · have d1 : cA c_ + 8 ≤ cA c ∨ cA c + 8 ≤ cA c_ := by unfold cA; omega
      have d2 : hA c_ + 7 ≤ hA c ∨ hA c + 7 ≤ hA c_ := by unfold hA; omega
      have q := h.H c_ u0
      have hc1 := cA_b (c := c_) u0
      have hc2 := hA_b (c := c_) u0
      have w1 : (ud (ud (ud (ud (ud (ud (ud (ud (ud f 2 (f 2 + 1)) (sA a k + 8) c) (sA a k + 9) (f 2 + 1)) (sA a k + 10) (f 0 + f 6)) (cA c + 7) 1) (cA c + 1) k) (cA c + 2) (f 2 + 1)) (cA c + 3) 0) 11 (f 11 + 1)) (cA c_ + 7) = f (cA c_ + 7) := by rw [ud_ne (by omega), ud_ne (by omega), ud_ne (by omega), ud_ne (by omega), ud_ne (by omega), ud_ne (by omega), ud_ne (by omega), ud_ne (by omega), ud_ne (by omega)]
      have w2 : (ud (ud (ud (ud (ud (ud (ud (ud (ud f 2 (f 2 + 1)) (sA a k + 8) c) (sA a k + 9) (f 2 + 1)) (sA a k + 10) (f 0 + f 6)) (cA c + 7) 1) (cA c + 1) k) (cA c + 2) (f 2 + 1)) (cA c + 3) 0) 11 (f 11 + 1)) (cA c_ + 1) = f (cA c_ + 1) := by rw [ud_ne (by omega), ud_ne (by omega), ud_ne (by omega), ud_ne (by omega), ud_ne (by omega), ud_ne (by omega), ud_ne (by omega), ud_ne (by omega), ud_ne (by omega)]
      have w3 : (ud (ud (ud (ud (ud (ud (ud (ud (ud f 2 (f 2 + 1)) (sA a k + 8) c) (sA a k + 9) (f 2 + 1)) (sA a k + 10) (f 0 + f 6)) (cA c + 7) 1) (cA c + 1) k) (cA c + 2) (f 2 + 1)) (cA c + 3) 0) 11 (f 11 + 1)) (cA c_ + 3) = f (cA c_ + 3) := by rw [ud_ne (by omega), ud_ne (by omega), ud_ne (by omega), ud_ne (by omega), ud_ne (by omega), ud_ne (by omega), ud_ne (by omega), ud_ne (by omega), ud_ne (by omega)]
      have w4 : (ud (ud (ud (ud (ud (ud (ud (ud (ud g (hA c + 1) k) (hA c + 2) 0) (hA c + 3) 0) 1 (g 1 + 1)) (hA c + 2) (g 1 + 1)) (lA a k) (g 0 + g 6)) (lA a k + 1) c) (lA a k + 2) (g 1 + 1)) 17 (g 17 + 1)) (hA c_ + 1) = g (hA c_ + 1) := by rw [ud_ne (by omega), ud_ne (by omega), ud_ne (by omega), ud_ne (by omega), ud_ne (by omega), ud_ne (by omega), ud_ne (by omega), ud_ne (by omega), ud_ne (by omega)]
      have w5 : (ud (ud (ud (ud (ud (ud (ud (ud (ud g (hA c + 1) k) (hA c + 2) 0) (hA c + 3) 0) 1 (g 1 + 1)) (hA c + 2) (g 1 + 1)) (lA a k) (g 0 + g 6)) (lA a k + 1) c) (lA a k + 2) (g 1 + 1)) 17 (g 17 + 1)) (hA c_ + 3) = g (hA c_ + 3) := by rw [ud_ne (by omega), ud_ne (by omega), ud_ne (by omega), ud_ne (by omega), ud_ne (by omega), ud_ne (by omega), ud_ne (by omega), ud_ne (by omega), ud_ne (by omega)]
      have x0 : (ud (ud (ud (ud (ud (ud (ud (ud (ud f 2 (f 2 + 1)) (sA a k + 8) c) (sA a k + 9) (f 2 + 1)) (sA a k + 10) (f 0 + f 6)) (cA c + 7) 1) (cA c + 1) k) (cA c + 2) (f 2 + 1)) (cA c + 3) 0) 11 (f 11 + 1)) (cA c_ + 0) = (ud (ud (ud (ud (ud (ud (ud (ud (ud g (hA c + 1) k) (hA c + 2) 0) (hA c + 3) 0) 1 (g 1 + 1)) (hA c + 2) (g 1 + 1)) (lA a k) (g 0 + g 6)) (lA a k + 1) c) (lA a k + 2) (g 1 + 1)) 17 (g 17 + 1)) (hA c_ + 0) := by
        rw [ud_ne (by omega), ud_ne (by omega), ud_ne (by omega), ud_ne (by omega), ud_ne (by omega), ud_ne (by omega), ud_ne (by omega), ud_ne (by omega), ud_ne (by omega), ud_ne (by omega), ud_ne (by omega), ud_ne (by omega), ud_ne (by omega), ud_ne (by omega), ud_ne (by omega), ud_ne (by omega), ud_ne (by omega), ud_ne (by omega)] <;> (first | omega | exact q.1)
      have x1 : (ud (ud (ud (ud (ud (ud (ud (ud (ud f 2 (f 2 + 1)) (sA a k + 8) c) (sA a k + 9) (f 2 + 1)) (sA a k + 10) (f 0 + f 6)) (cA c + 7) 1) (cA c + 1) k) (cA c + 2) (f 2 + 1)) (cA c + 3) 0) 11 (f 11 + 1)) (cA c_ + 2) = (ud (ud (ud (ud (ud (ud (ud (ud (ud g (hA c + 1) k) (hA c + 2) 0) (hA c + 3) 0) 1 (g 1 + 1)) (hA c + 2) (g 1 + 1)) (lA a k) (g 0 + g 6)) (lA a k + 1) c) (lA a k + 2) (g 1 + 1)) 17 (g 17 + 1)) (hA c_ + 2) := by
        rw [ud_ne (by omega), ud_ne (by omega), ud_ne (by omega), ud_ne (by omega), ud_ne (by omega), ud_ne (by omega), ud_ne (by omega), ud_ne (by omega), ud_ne (by omega), ud_ne (by omega), ud_ne (by omega), ud_ne (by omega), ud_ne (by omega), ud_ne (by omega), ud_ne (by omega), ud_ne (by omega), ud_ne (by omega), ud_ne (by omega)] <;> (first | omega | exact q.2.1)
      have x2 : (ud (ud (ud (ud (ud (ud (ud (ud (ud f 2 (f 2 + 1)) (sA a k + 8) c) (sA a k + 9) (f 2 + 1)) (sA a k + 10) (f 0 + f 6)) (cA c + 7) 1) (cA c + 1) k) (cA c + 2) (f 2 + 1)) (cA c + 3) 0) 11 (f 11 + 1)) (cA c_ + 4) = (ud (ud (ud (ud (ud (ud (ud (ud (ud g (hA c + 1) k) (hA c + 2) 0) (hA c + 3) 0) 1 (g 1 + 1)) (hA c + 2) (g 1 + 1)) (lA a k) (g 0 + g 6)) (lA a k + 1) c) (lA a k + 2) (g 1 + 1)) 17 (g 17 + 1)) (hA c_ + 4) := by
        rw [ud_ne (by omega), ud_ne (by omega), ud_ne (by omega), ud_ne (by omega), ud_ne (by omega), ud_ne (by omega), ud_ne (by omega), ud_ne (by omega), ud_ne (by omega), ud_ne (by omega), ud_ne (by omega), ud_ne (by omega), ud_ne (by omega), ud_ne (by omega), ud_ne (by omega), ud_ne (by omega), ud_ne (by omega), ud_ne (by omega)] <;> (first | omega | exact q.2.2.1)
      have x3 : (ud (ud (ud (ud (ud (ud (ud (ud (ud f 2 (f 2 + 1)) (sA a k + 8) c) (sA a k + 9) (f 2 + 1)) (sA a k + 10) (f 0 + f 6)) (cA c + 7) 1) (cA c + 1) k) (cA c + 2) (f 2 + 1)) (cA c + 3) 0) 11 (f 11 + 1)) (cA c_ + 5) = (ud (ud (ud (ud (ud (ud (ud (ud (ud g (hA c + 1) k) (hA c + 2) 0) (hA c + 3) 0) 1 (g 1 + 1)) (hA c + 2) (g 1 + 1)) (lA a k) (g 0 + g 6)) (lA a k + 1) c) (lA a k + 2) (g 1 + 1)) 17 (g 17 + 1)) (hA c_ + 5) := by
        rw [ud_ne (by omega), ud_ne (by omega), ud_ne (by omega), ud_ne (by omega), ud_ne (by omega), ud_ne (by omega), ud_ne (by omega), ud_ne (by omega), ud_ne (by omega), ud_ne (by omega), ud_ne (by omega), ud_ne (by omega), ud_ne (by omega), ud_ne (by omega), ud_ne (by omega), ud_ne (by omega), ud_ne (by omega), ud_ne (by omega)] <;> (first | omega | exact q.2.2.2.1)
      have x4 : (ud (ud (ud (ud (ud (ud (ud (ud (ud f 2 (f 2 + 1)) (sA a k + 8) c) (sA a k + 9) (f 2 + 1)) (sA a k + 10) (f 0 + f 6)) (cA c + 7) 1) (cA c + 1) k) (cA c + 2) (f 2 + 1)) (cA c + 3) 0) 11 (f 11 + 1)) (cA c_ + 6) = (ud (ud (ud (ud (ud (ud (ud (ud (ud g (hA c + 1) k) (hA c + 2) 0) (hA c + 3) 0) 1 (g 1 + 1)) (hA c + 2) (g 1 + 1)) (lA a k) (g 0 + g 6)) (lA a k + 1) c) (lA a k + 2) (g 1 + 1)) 17 (g 17 + 1)) (hA c_ + 6) := by
        rw [ud_ne (by omega), ud_ne (by omega), ud_ne (by omega), ud_ne (by omega), ud_ne (by omega), ud_ne (by omega), ud_ne (by omega), ud_ne (by omega), ud_ne (by omega), ud_ne (by omega), ud_ne (by omega), ud_ne (by omega), ud_ne (by omega), ud_ne (by omega), ud_ne (by omega), ud_ne (by omega), ud_ne (by omega), ud_ne (by omega)] <;> (first | omega | exact q.2.2.2.2.1)
      refine ⟨x0, x1, x2, x3, x4, ?_, ?_⟩
      · rw [w2]; omega
      · rw [w1, w2, w3, w4, w5]; omega
  have hS_ : SmS (ud (ud (ud (ud (ud (ud (ud (ud (ud f 2 (f 2 + 1)) (sA a k + 8) c) (sA a k + 9) (f 2 + 1)) (sA a k + 10) (f 0 + f 6)) (cA c + 7) 1) (cA c + 1) k) (cA c + 2) (f 2 + 1)) (cA c + 3) 0) 11 (f 11 + 1)) (ud (ud (ud (ud (ud (ud (ud (ud (ud g (hA c + 1) k) (hA c + 2) 0) (hA c + 3) 0) 1 (g 1 + 1)) (hA c + 2) (g 1 + 1)) (lA a k) (g 0 + g 6)) (lA a k + 1) c) (lA a k + 2) (g 1 + 1)) 17 (g 17 + 1)) := by
    intro a_ k_ u0 u1
    rcases Decidable.em (a = a_ ∧ k = k_) with e | e
    · obtain ⟨e1, e2⟩ := e
      subst e1
      subst e2
      have q := h.S a k u0 u1
      have b1 := sA_b u0 u1
      have b2 := eA_b u0 u1
      have b3 := oA_b u0 u1
      have b4 := lA_b u0 u1
      have b5 := dA_b u0 u1
      refine ⟨?_, ?_, ?_, ?_, ?_, ?_, ?_, ?_, ?_, ?_, ?_, ?_⟩
      · rw [ud_ne (by omega), ud_ne (by omega), ud_ne (by omega), ud_ne (by omega), ud_ne (by omega), ud_ne (by omega), ud_ne (by omega), ud_ne (by omega), ud_ne (by omega), ud_ne (by omega), ud_ne (by omega), ud_ne (by omega), ud_ne (by omega), ud_ne (by omega), ud_ne (by omega), ud_ne (by omega), ud_ne (by omega), ud_ne (by omega)] <;> (first | exact q.1 | omega)
      · rw [ud_ne (by omega), ud_ne (by omega), ud_ne (by omega), ud_ne (by omega), ud_ne (by omega), ud_ne (by omega), ud_ne (by omega), ud_ne (by omega), ud_ne (by omega), ud_ne (by omega), ud_ne (by omega), ud_ne (by omega), ud_ne (by omega), ud_ne (by omega), ud_ne (by omega), ud_ne (by omega), ud_ne (by omega), ud_ne (by omega)] <;> (first | exact q.2.1 | omega)
      · rw [ud_ne (by omega), ud_ne (by omega), ud_ne (by omega), ud_ne (by omega), ud_ne (by omega), ud_ne (by omega), ud_ne (by omega), ud_ne (by omega), ud_ne (by omega), ud_ne (by omega), ud_ne (by omega), ud_ne (by omega), ud_ne (by omega), ud_ne (by omega), ud_ne (by omega), ud_ne (by omega), ud_ne (by omega), ud_ne (by omega)] <;> (first | exact q.2.2.1 | omega)
      · rw [ud_ne (by omega), ud_ne (by omega), ud_ne (by omega), ud_ne (by omega), ud_ne (by omega), ud_ne (by omega), ud_ne (by omega), ud_ne (by omega), ud_ne (by omega), ud_ne (by omega), ud_ne (by omega), ud_ne (by omega), ud_ne (by omega), ud_ne (by omega), ud_ne (by omega), ud_ne (by omega), ud_ne (by omega), ud_ne (by omega)] <;> (first | exact q.2.2.2.1 | omega)
      · rw [ud_ne (by omega), ud_ne (by omega), ud_ne (by omega), ud_ne (by omega), ud_ne (by omega), ud_ne (by omega), ud_ne (by omega), ud_ne (by omega), ud_ne (by omega), ud_ne (by omega), ud_ne (by omega), ud_ne (by omega), ud_ne (by omega), ud_ne (by omega), ud_ne (by omega), ud_ne (by omega), ud_ne (by omega), ud_ne (by omega)] <;> (first | exact q.2.2.2.2.1 | omega)
      · rw [ud_ne (by omega), ud_ne (by omega), ud_ne (by omega), ud_ne (by omega), ud_ne (by omega), ud_ne (by omega), ud_ne (by omega), ud_ne (by omega), ud_ne (by omega), ud_ne (by omega), ud_ne (by omega), ud_ne (by omega), ud_ne (by omega), ud_ne (by omega), ud_ne (by omega), ud_ne (by omega), ud_ne (by omega), ud_ne (by omega), ud_ne (by omega), ud_ne (by omega), ud_ne (by omega), ud_ne (by omega), ud_ne (by omega), ud_ne (by omega), ud_ne (by omega), ud_ne (by omega), ud_ne (by omega)] <;> (first | exact q.2.2.2.2.2.1 | (unfold EA at *; omega))
      · rw [ud_ne (by omega), ud_ne (by omega), ud_ne (by omega), ud_ne (by omega), ud_ne (by omega), ud_ne (by omega), ud_ne (by omega), ud_ne (by omega), ud_ne (by omega), ud_ne (by omega), ud_ne (by omega), ud_ne (by omega), ud_ne (by omega), ud_ne (by omega), ud_ne (by omega), ud_ne (by omega), ud_ne (by omega), ud_ne (by omega)] <;> (first | exact q.2.2.2.2.2.2.1 | omega)
      · rw [ud_ne (by omega), ud_ne (by omega), ud_ne (by omega), ud_ne (by omega), ud_ne (by omega), ud_ne (by omega), ud_ne (by omega), ud_ne (by omega), ud_ne (by omega), ud_ne (by omega), ud_ne (by omega), ud_ne (by omega), ud_ne (by omega), ud_ne (by omega), ud_ne (by omega), ud_ne (by omega), ud_ne (by omega), ud_ne (by omega), ud_ne (by omega), ud_ne (by omega), ud_ne (by omega), ud_ne (by omega), ud_ne (by omega), ud_ne (by omega), ud_ne (by omega), ud_ne (by omega), ud_ne (by omega)] <;> (first | exact q.2.2.2.2.2.2.2.1 | (unfold EA at *; omega))
      · rw [ud_ne (by omega), ud_ne (by omega), ud_ne (by omega), ud_ne (by omega), ud_ne (by omega), ud_ne (by omega), ud_ne (by omega), ud_eq, ud_ne (by omega), ud_ne (by omega), ud_eq] <;> (first | exact q.2.2.2.2.2.2.2.2.1 | omega)
      · rw [ud_ne (by omega), ud_ne (by omega), ud_ne (by omega), ud_ne (by omega), ud_ne (by omega), ud_ne (by omega), ud_eq, ud_ne (by omega), ud_eq] <;> (first | exact q.2.2.2.2.2.2.2.2.2.1 | omega)
      · rw [ud_ne (by omega), ud_ne (by omega), ud_ne (by omega), ud_ne (by omega), ud_ne (by omega), ud_ne (by omega), ud_ne (by omega), ud_ne (by omega), ud_ne (by omega), ud_ne (by omega), ud_ne (by omega), ud_ne (by omega), ud_ne (by omega), ud_ne (by omega), ud_eq, ud_ne (by omega), ud_ne (by omega), ud_ne (by omega), ud_eq] <;> (first | exact q.2.2.2.2.2.2.2.2.2.2.1 | (unfold EA at *; omega))
      · rw [ud_ne (by omega), ud_ne (by omega), ud_ne (by omega), ud_ne (by omega), ud_ne (by omega), ud_ne (by omega), ud_ne (by omega), ud_ne (by omega), ud_ne (by omega), ud_ne (by omega), ud_ne (by omega), ud_ne (by omega), ud_ne (by omega), ud_ne (by omega), ud_ne (by omega), ud_ne (by omega), ud_ne (by omega), ud_ne (by omega), ud_ne (by omega), ud_ne (by omega), ud_ne (by omega), ud_ne (by omega), ud_ne (by omega), ud_ne (by omega), ud_ne (by omega), ud_ne (by omega), ud_ne (by omega)] <;> (first | exact q.2.2.2.2.2.2.2.2.2.2.2 | (unfold EA at *; omega))
    · have d1 : sA a_ k_ + 12 ≤ sA a k ∨ sA a k + 12 ≤ sA a_ k_ := by unfold sA; omega
      have d2 : eA a_ k_ + 6 ≤ eA a k ∨ eA a k + 6 ≤ eA a_ k_ := by unfold eA; omega
      have d3 : oA a_ k_ + 2 ≤ oA a k ∨ oA a k + 2 ≤ oA a_ k_ := by unfold oA; omega
      have d4 : lA a_ k_ + 3 ≤ lA a k ∨ lA a k + 3 ≤ lA a_ k_ := by unfold lA; omega
      have d5 : dA a_ k_ + 1 ≤ dA a k ∨ dA a k + 1 ≤ dA a_ k_ := by unfold dA; omega
      have q := h.S a_ k_ u0 u1
      have b1 := sA_b u0 u1
      have b2 := eA_b u0 u1
      have b3 := oA_b u0 u1
      have b4 := lA_b u0 u1
      have b5 := dA_b u0 u1
      refine ⟨?_, ?_, ?_, ?_, ?_, ?_, ?_, ?_, ?_, ?_, ?_, ?_⟩
      · rw [ud_ne (by omega), ud_ne (by omega), ud_ne (by omega), ud_ne (by omega), ud_ne (by omega), ud_ne (by omega), ud_ne (by omega), ud_ne (by omega), ud_ne (by omega), ud_ne (by omega), ud_ne (by omega), ud_ne (by omega), ud_ne (by omega), ud_ne (by omega), ud_ne (by omega), ud_ne (by omega), ud_ne (by omega), ud_ne (by omega)] <;> (exact q.1)
      · rw [ud_ne (by omega), ud_ne (by omega), ud_ne (by omega), ud_ne (by omega), ud_ne (by omega), ud_ne (by omega), ud_ne (by omega), ud_ne (by omega), ud_ne (by omega), ud_ne (by omega), ud_ne (by omega), ud_ne (by omega), ud_ne (by omega), ud_ne (by omega), ud_ne (by omega), ud_ne (by omega), ud_ne (by omega), ud_ne (by omega)] <;> (exact q.2.1)
      · rw [ud_ne (by omega), ud_ne (by omega), ud_ne (by omega), ud_ne (by omega), ud_ne (by omega), ud_ne (by omega), ud_ne (by omega), ud_ne (by omega), ud_ne (by omega), ud_ne (by omega), ud_ne (by omega), ud_ne (by omega), ud_ne (by omega), ud_ne (by omega), ud_ne (by omega), ud_ne (by omega), ud_ne (by omega), ud_ne (by omega)] <;> (exact q.2.2.1)
      · rw [ud_ne (by omega), ud_ne (by omega), ud_ne (by omega), ud_ne (by omega), ud_ne (by omega), ud_ne (by omega), ud_ne (by omega), ud_ne (by omega), ud_ne (by omega), ud_ne (by omega), ud_ne (by omega), ud_ne (by omega), ud_ne (by omega), ud_ne (by omega), ud_ne (by omega), ud_ne (by omega), ud_ne (by omega), ud_ne (by omega)] <;> (exact q.2.2.2.1)
      · rw [ud_ne (by omega), ud_ne (by omega), ud_ne (by omega), ud_ne (by omega), ud_ne (by omega), ud_ne (by omega), ud_ne (by omega), ud_ne (by omega), ud_ne (by omega), ud_ne (by omega), ud_ne (by omega), ud_ne (by omega), ud_ne (by omega), ud_ne (by omega), ud_ne (by omega), ud_ne (by omega), ud_ne (by omega), ud_ne (by omega)] <;> (exact q.2.2.2.2.1)
      · rw [ud_ne (by omega), ud_ne (by omega), ud_ne (by omega), ud_ne (by omega), ud_ne (by omega), ud_ne (by omega), ud_ne (by omega), ud_ne (by omega), ud_ne (by omega), ud_ne (by omega), ud_ne (by omega), ud_ne (by omega), ud_ne (by omega), ud_ne (by omega), ud_ne (by omega), ud_ne (by omega), ud_ne (by omega), ud_ne (by omega), ud_ne (by omega), ud_ne (by omega), ud_ne (by omega), ud_ne (by omega), ud_ne (by omega), ud_ne (by omega), ud_ne (by omega), ud_ne (by omega), ud_ne (by omega)] <;> (exact q.2.2.2.2.2.1)
      · rw [ud_ne (by omega), ud_ne (by omega), ud_ne (by omega), ud_ne (by omega), ud_ne (by omega), ud_ne (by omega), ud_ne (by omega), ud_ne (by omega), ud_ne (by omega), ud_ne (by omega), ud_ne (by omega), ud_ne (by omega), ud_ne (by omega), ud_ne (by omega), ud_ne (by omega), ud_ne (by omega), ud_ne (by omega), ud_ne (by omega)] <;> (exact q.2.2.2.2.2.2.1)
      · rw [ud_ne (by omega), ud_ne (by omega), ud_ne (by omega), ud_ne (by omega), ud_ne (by omega), ud_ne (by omega), ud_ne (by omega), ud_ne (by omega), ud_ne (by omega), ud_ne (by omega), ud_ne (by omega), ud_ne (by omega), ud_ne (by omega), ud_ne (by omega), ud_ne (by omega), ud_ne (by omega), ud_ne (by omega), ud_ne (by omega), ud_ne (by omega), ud_ne (by omega), ud_ne (by omega), ud_ne (by omega), ud_ne (by omega), ud_ne (by omega), ud_ne (by omega), ud_ne (by omega), ud_ne (by omega)] <;> (exact q.2.2.2.2.2.2.2.1)
      · rw [ud_ne (by omega), ud_ne (by omega), ud_ne (by omega), ud_ne (by omega), ud_ne (by omega), ud_ne (by omega), ud_ne (by omega), ud_ne (by omega), ud_ne (by omega), ud_ne (by omega), ud_ne (by omega), ud_ne (by omega), ud_ne (by omega), ud_ne (by omega), ud_ne (by omega), ud_ne (by omega), ud_ne (by omega), ud_ne (by omega)] <;> (exact q.2.2.2.2.2.2.2.2.1)
      · rw [ud_ne (by omega), ud_ne (by omega), ud_ne (by omega), ud_ne (by omega), ud_ne (by omega), ud_ne (by omega), ud_ne (by omega), ud_ne (by omega), ud_ne (by omega), ud_ne (by omega), ud_ne (by omega), ud_ne (by omega), ud_ne (by omega), ud_ne (by omega), ud_ne (by omega), ud_ne (by omega), ud_ne (by omega), ud_ne (by omega)] <;> (exact q.2.2.2.2.2.2.2.2.2.1)
      · rw [ud_ne (by omega), ud_ne (by omega), ud_ne (by omega), ud_ne (by omega), ud_ne (by omega), ud_ne (by omega), ud_ne (by omega), ud_ne (by omega), ud_ne (by omega), ud_ne (by omega), ud_ne (by omega), ud_ne (by omega), ud_ne (by omega), ud_ne (by omega), ud_ne (by omega), ud_ne (by omega), ud_ne (by omega), ud_ne (by omega), ud_ne (by omega), ud_ne (by omega), ud_ne (by omega), ud_ne (by omega), ud_ne (by omega), ud_ne (by omega), ud_ne (by omega), ud_ne (by omega), ud_ne (by omega)] <;> (exact q.2.2.2.2.2.2.2.2.2.2.1)
      · rw [ud_ne (by omega), ud_ne (by omega), ud_ne (by omega), ud_ne (by omega), ud_ne (by omega), ud_ne (by omega), ud_ne (by omega), ud_ne (by omega), ud_ne (by omega), ud_ne (by omega), ud_ne (by omega), ud_ne (by omega), ud_ne (by omega), ud_ne (by omega), ud_ne (by omega), ud_ne (by omega), ud_ne (by omega), ud_ne (by omega), ud_ne (by omega), ud_ne (by omega), ud_ne (by omega), ud_ne (by omega), ud_ne (by omega), ud_ne (by omega), ud_ne (by omega), ud_ne (by omega), ud_ne (by omega)] <;> (exact q.2.2.2.2.2.2.2.2.2.2.2)
  have hZ_ : SmZ (ud (ud (ud (ud (ud (ud (ud (ud (ud f 2 (f 2 + 1)) (sA a k + 8) c) (sA a k + 9) (f 2 + 1)) (sA a k + 10) (f 0 + f 6)) (cA c + 7) 1) (cA c + 1) k) (cA c + 2) (f 2 + 1)) (cA c + 3) 0) 11 (f 11 + 1)) := by
    intro j u0
    rw [ud_ne (by omega), ud_ne (by omega), ud_ne (by omega), ud_ne (by omega), ud_ne (by omega), ud_ne (by omega), ud_ne (by omega), ud_ne (by omega), ud_ne (by omega)]
    exact h.Z j u0
  exact ⟨hA_, hT_, hL_, hE_, hP_, hO_, hC_, hM_, hV_, hW_, hJ_, hH_, hS_, hZ_⟩
set_option maxHeartbeats 4000000 in
theorem sm_free {c : Int} (hc : 0 ≤ c ∧ c < 6) {k : Int} (hk : 0 ≤ k ∧ k < 10) (h : Sm0 f g) (hI : IM B g) : Sm0 (ud (ud (ud (ud (ud f (cA c + 7) 1) (cA c + 1) k) (cA c + 2) 0) (cA c + 3) 0) 11 (f 11 + 1)) (ud (ud (ud (ud g (hA c + 1) k) (hA c + 2) 0) (hA c + 3) 0) 17 (g 17 + 1)) := by
  have pc1 := cA_b hc
  have pc2 := hA_b hc
  have pc3 := h.H c hc
  have l1 : f 11 = g 17 := h.L 1 (by omega)
  have hA_ : SmA (ud (ud (ud (ud (ud f (cA c + 7) 1) (cA c + 1) k) (cA c + 2) 0) (cA c + 3) 0) 11 (f 11 + 1)) (ud (ud (ud (ud g (hA c + 1) k) (hA c + 2) 0) (hA c + 3) 0) 17 (g 17 + 1)) := by
    have q := h.A
    unfold SmA at q
    refine ⟨?_, ?_, ?_⟩
    · rw [ud_ne (by omega), ud_ne (by omega), ud_ne (by omega), ud_ne (by omega), ud_ne (by omega), ud_ne (by omega), ud_ne (by omega), ud_ne (by omega), ud_ne (by omega)]; omega
    · rw [ud_ne (by omega), ud_ne (by omega), ud_ne (by omega), ud_ne (by omega), ud_ne (by omega), ud_ne (by omega), ud_ne (by omega), ud_ne (by omega), ud_ne (by omega)]; omega
    · rw [ud_ne (by omega), ud_ne (by omega), ud_ne (by omega), ud_ne (by omega), ud_ne (by omega), ud_ne (by omega), ud_ne (by omega), ud_ne (by omega), ud_ne (by omega)]; omega
  have hT_ : SmT (ud (ud (ud (ud (ud f (cA c + 7) 1) (cA c + 1) k) (cA c + 2) 0) (cA c + 3) 0) 11 (f 11 + 1)) (ud (ud (ud (ud g (hA c + 1) k) (hA c + 2) 0) (hA c + 3) 0) 17 (g 17 + 1)) := by
    intro i u0
    rw [ud_ne (by omega), ud_ne (by omega), ud_ne (by omega), ud_ne (by omega), ud_ne (by omega), ud_ne (by omega), ud_ne (by omega), ud_ne (by omega), ud_ne (by omega)]
    exact h.T i u0
  have hL_ : SmL (ud (ud (ud (ud (ud f (cA c + 7) 1) (cA c + 1) k) (cA c + 2) 0) (cA c + 3) 0) 11 (f 11 + 1)) (ud (ud (ud (ud g (hA c + 1) k) (hA c + 2) 0) (hA c + 3) 0) 17 (g 17 + 1)) := by
    intro i u0
    rcases Decidable.em (1 = i) with e | e
    · subst e
      have q := h.L 1 u0
      rw [ud_at (by omega), ud_at (by omega)] <;> (first | exact q | omega | (simp only [Int.add_zero] at *; omega))
    · skip
      rw [ud_ne (by omega), ud_ne (by omega), ud_ne (by omega), ud_ne (by omega), ud_ne (by omega), ud_ne (by omega), ud_ne (by omega), ud_ne (by omega), ud_ne (by omega)]
      exact h.L i u0
  have hE_ : SmE (ud (ud (ud (ud (ud f (cA c + 7) 1) (cA c + 1) k) (cA c + 2) 0) (cA c + 3) 0) 11 (f 11 + 1)) (ud (ud (ud (ud g (hA c + 1) k) (hA c + 2) 0) (hA c + 3) 0) 17 (g 17 + 1)) := by
    intro k_ u0
    rw [ud_ne (by omega), ud_ne (by omega), ud_ne (by omega), ud_ne (by omega), ud_ne (by omega), ud_ne (by omega), ud_ne (by omega), ud_ne (by omega), ud_ne (by omega)]
    exact h.E k_ u0
  have hP_ : SmP (ud (ud (ud (ud (ud f (cA c + 7) 1) (cA c + 1) k) (cA c + 2) 0) (cA c + 3) 0) 11 (f 11 + 1)) (ud (ud (ud (ud g (hA c + 1) k) (hA c + 2) 0) (hA c + 3) 0) 17 (g 17 + 1)) := by
    intro r_ u0
    rw [ud_ne (by omega), ud_ne (by omega), ud_ne (by omega), ud_ne (by omega), ud_ne (by omega), ud_ne (by omega), ud_ne (by omega), ud_ne (by omega), ud_ne (by omega)]
    exact h.P r_ u0
  have hO_ : SmO (ud (ud (ud (ud (ud f (cA c + 7) 1) (cA c + 1) k) (cA c + 2) 0) (cA c + 3) 0) 11 (f 11 + 1)) (ud (ud (ud (ud g (hA c + 1) k) (hA c + 2) 0) (hA c + 3) 0) 17 (g 17 + 1)) := by
    intro r_ u0
    rw [ud_ne (by omega), ud_ne (by omega), ud_ne (by omega), ud_ne (by omega), ud_ne (by omega), ud_ne (by omega), ud_ne (by omega), ud_ne (by omega), ud_ne (by omega)]
    exact h.O r_ u0
  have hC_ : SmC (ud (ud (ud (ud (ud f (cA c + 7) 1) (cA c + 1) k) (cA c + 2) 0) (cA c + 3) 0) 11 (f 11 + 1)) (ud (ud (ud (ud g (hA c + 1) k) (hA c + 2) 0) (hA c + 3) 0) 17 (g 17 + 1)) := by
    intro a_ u0
    rw [ud_ne (by omega), ud_ne (by omega), ud_ne (by omega), ud_ne (by omega), ud_ne (by omega), ud_ne (by omega), ud_ne (by omega), ud_ne (by omega), ud_ne (by omega)]
    exact h.C a_ u0
  have hM_ : SmM (ud (ud (ud (ud (ud f (cA c + 7) 1) (cA c + 1) k) (cA c + 2) 0) (cA c + 3) 0) 11 (f 11 + 1)) (ud (ud (ud (ud g (hA c + 1) k) (hA c + 2) 0) (hA c + 3) 0) 17 (g 17 + 1)) := by
    intro r_ k_ u0 u1
    rw [ud_ne (by omega), ud_ne (by omega), ud_ne (by omega), ud_ne (by omega), ud_ne (by omega), ud_ne (by omega), ud_ne (by omega), ud_ne (by omega), ud_ne (by omega)]
    exact h.M r_ k_ u0 u1
  have hJ_ : SmJ (ud (ud (ud (ud (ud f (cA c + 7) 1) (cA c + 1) k) (cA c + 2) 0) (cA c + 3) 0) 11 (f 11 + 1)) (ud (ud (ud (ud g (hA c + 1) k) (hA c + 2) 0) (hA c + 3) 0) 17 (g 17 + 1)) := by
    intro n i u0 u1
    have hj := jA_b u0
    rw [ud_ne (by omega), ud_ne (by omega), ud_ne (by omega), ud_ne (by omega), ud_ne (by omega), ud_ne (by omega), ud_ne (by omega), ud_ne (by omega), ud_ne (by omega)]
    exact h.J n i u0 u1
  have hK : ∀ n, 1 ≤ n ∧ n ≤ 60 → (ud (ud (ud (ud g (hA c + 1) k) (hA c + 2) 0) (hA c + 3) 0) 17 (g 17 + 1)) (36 + 3 * (n - 1)) = g (36 + 3 * (n - 1)) := by
    intro n u0
    rw [ud_ne (by omega), ud_ne (by omega), ud_ne (by omega), ud_ne (by omega)]
  have hV_ : SmV (ud (ud (ud (ud (ud f (cA c + 7) 1) (cA c + 1) k) (cA c + 2) 0) (cA c + 3) 0) 11 (f 11 + 1)) (ud (ud (ud (ud g (hA c + 1) k) (hA c + 2) 0) (hA c + 3) 0) 17 (g 17 + 1)) := by
    intro r_ k_ u0 u1
    rw [lastI_cong hK (by rw [ud_ne (by omega), ud_ne (by omega), ud_ne (by omega), ud_ne (by omega)]; exact (hI.n60 (by omega)).2)]
    rw [ud_ne (by omega), ud_ne (by omega), ud_ne (by omega), ud_ne (by omega), ud_ne (by omega), ud_ne (by omega), ud_ne (by omega), ud_ne (by omega), ud_ne (by omega)]
    exact h.V r_ k_ u0 u1
  have hW_ : SmW (ud (ud (ud (ud (ud f (cA c + 7) 1) (cA c + 1) k) (cA c + 2) 0) (cA c + 3) 0) 11 (f 11 + 1)) (ud (ud (ud (ud g (hA c + 1) k) (hA c + 2) 0) (hA c + 3) 0) 17 (g 17 + 1)) := by
    intro k_ u0
    rw [lastI_cong hK (by rw [ud_ne (by omega), ud_ne (by omega), ud_ne (by omega), ud_ne (by omega)]; exact (hI.n60 (by omega)).2)]
    rw [ud_ne (by omega), ud_ne (by omega), ud_ne (by omega), ud_ne (by omega), ud_ne (by omega), ud_ne (by omega), ud_ne (by omega), ud_ne (by omega), ud_ne (by omega)]
    exact h.W k_ u0
  have hH_ : SmH (ud (ud (ud (ud (ud f (cA c + 7) 1) (cA c + 1) k) (cA c + 2) 0) (cA c + 3) 0) 11 (f 11 + 1)) (ud (ud (ud (ud g (hA c + 1) k) (hA c + 2) 0) (hA c + 3) 0) 17 (g 17 + 1)) := by
    intro c_ u0
    rcases Decidable.em (c = c_) with e | e
    · subst e
      have q := h.H c u0
      have hc1 := cA_b (c := c) u0
      have hc2 := hA_b (c := c) u0
      have w1 : (ud (ud (ud (ud (ud f (cA c + 7) 1) (cA c + 1) k) (cA c + 2) 0) (cA c + 3) 0) 11 (f 11 + 1)) (cA c + 7) = 1 := by rw [ud_ne (by omega), ud_ne (by omega), ud_ne (by omega), ud_ne (by omega), ud_eq]
      have w2 : (ud (ud (ud (ud (ud f (cA c + 7) 1) (cA c + 1) k) (cA c + 2) 0) (cA c + 3) 0) 11 (f 11 + 1)) (cA c + 1) = k := by rw [ud_ne (by omega), ud_ne (by omega), ud_ne (by omega), ud_eq]
      have w3 : (ud (ud (ud (ud (ud f (cA c + 7) 1) (cA c + 1) k) (cA c + 2) 0) (cA c + 3) 0) 11 (f 11 + 1)) (cA c + 3) = 0 := by rw [ud_ne (by omega), ud_eq]
      have w4 : (ud (ud (ud (ud g (hA c + 1) k) (hA c + 2) 0) (hA c + 3) 0) 17 (g 17 + 1)) (hA c + 1) = k := by rw [ud_ne (by omega), ud_ne (by omega), ud_ne (by omega), ud_eq]
      have w5 : (ud (ud (ud (ud g (hA c + 1) k) (hA c + 2) 0) (hA c + 3) 0) 17 (g 17 + 1)) (hA c + 3) = 0 := by rw [ud_ne (by omega), ud_eq]
      have x0 : (ud (ud (ud (ud (ud f (cA c + 7) 1) (cA c + 1) k) (cA c + 2) 0) (cA c + 3) 0) 11 (f 11 + 1)) (cA c + 0) = (ud (ud (ud (ud g (hA c + 1) k) (hA c + 2) 0) (hA c + 3) 0) 17 (g 17 + 1)) (hA c + 0) := by
        rw [ud_ne (by omega), ud_ne (by omega), ud_ne (by omega), ud_ne (by omega), ud_ne (by omega), ud_ne (by omega), ud_ne (by omega), ud_ne (by omega), ud_ne (by omega)] <;> (first | omega | exact q.1)
      have x1 : (ud (ud (ud (ud (ud f (cA c + 7) 1) (cA c + 1) k) (cA c + 2) 0) (cA c + 3) 0) 11 (f 11 + 1)) (cA c + 2) = (ud (ud (ud (ud g (hA c + 1) k) (hA c + 2) 0) (hA c + 3) 0) 17 (g 17 + 1)) (hA c + 2) := by
        rw [ud_ne (by omega), ud_ne (by omega), ud_eq, ud_ne (by omega), ud_ne (by omega), ud_eq] <;> (first | omega | exact q.2.1)
      have x2 : (ud (ud (ud (ud (ud f (cA c + 7) 1) (cA c + 1) k) (cA c + 2) 0) (cA c + 3) 0) 11 (f 11 + 1)) (cA c + 4) = (ud (ud (ud (ud g (hA c + 1) k) (hA c + 2) 0) (hA c + 3) 0) 17 (g 17 + 1)) (hA c + 4) := by
        rw [ud_ne (by omega), ud_ne (by omega), ud_ne (by omega), ud_ne (by omega), ud_ne (by omega), ud_ne (by omega), ud_ne (by omega), ud_ne (by omega), ud_ne (by omega)] <;> (first | omega | exact q.2.2.1)
      have x3 : (ud (ud (ud (ud (ud f (cA c + 7) 1) (cA c + 1) k) (cA c + 2) 0) (cA c + 3) 0) 11 (f 11 + 1)) (cA c + 5) = (ud (ud (ud (ud g (hA c + 1) k) (hA c + 2) 0) (hA c + 3) 0) 17 (g 17 + 1)) (hA c + 5) := by
        rw [ud_ne (by omega), ud_ne (by omega), ud_ne (by omega), ud_ne (by omega), ud_ne (by omega), ud_ne (by omega), ud_ne (by omega), ud_ne (by omega), ud_ne (by omega)] <;> (first | omega | exact q.2.2.2.1)
      have x4 : (ud (ud (ud (ud (ud f (cA c + 7) 1) (cA c + 1) k) (cA c + 2) 0) (cA c + 3) 0) 11 (f 11 + 1)) (cA c + 6) = (ud (ud (ud (ud g (hA c + 1) k) (hA c + 2) 0) (hA c + 3) 0) 17 (g 17 + 1)) (hA c + 6) := by
        rw [ud_ne (by omega), ud_ne (by omega), ud_ne (by omega), ud_ne (by omega), ud_ne (by omega), ud_ne (by omega), ud_ne (by omega), ud_ne (by omega), ud_ne (by omega)] <;> (first | omega | exact q.2.2.2.2.1)
      refine ⟨x0, x1, x2, x3, x4, ?_, ?_⟩
      · rw [w2]; omega
      · rw [w1, w2, w3, w4, w5]; omega
    · have d1 : cA c_ + 8 ≤ cA c ∨ cA c + 8 ≤ cA c_ := by unfold cA; omega
      have d2 : hA c_ + 7 ≤ hA c ∨ hA c + 7 ≤ hA c_ := by unfold hA; omega
      have q := h.H c_ u0
      have hc1 := cA_b (c := c_) u0
      have hc2 := hA_b (c := c_) u0
      have w1 : (ud (ud (ud (ud (ud f (cA c + 7) 1) (cA c + 1) k) (cA c + 2) 0) (cA c + 3) 0) 11 (f 11 + 1)) (cA c_ + 7) = f (cA c_ + 7) := by rw [ud_ne (by omega), ud_ne (by omega), ud_ne (by omega), ud_ne (by omega), ud_ne (by omega)]
      have w2 : (ud (ud (ud (ud (ud f (cA c + 7) 1) (cA c + 1) k) (cA c + 2) 0) (cA c + 3) 0) 11 (f 11 + 1)) (cA c_ + 1) = f (cA c_ + 1) := by rw [ud_ne (by omega), ud_ne (by omega), ud_ne (by omega), ud_ne (by omega), ud_ne (by omega)]
      have w3 : (ud (ud (ud (ud (ud f (cA c + 7) 1) (cA c + 1) k) (cA c + 2) 0) (cA c + 3) 0) 11 (f 11 + 1)) (cA c_ + 3) = f (cA c_ + 3) := by rw [ud_ne (by omega), ud_ne (by omega), ud_ne (by omega), ud_ne (by omega), ud_ne (by omega)]
      have w4 : (ud (ud (ud (ud g (hA c + 1) k) (hA c + 2) 0) (hA c + 3) 0) 17 (g 17 + 1)) (hA c_ + 1) = g (hA c_ + 1) := by rw [ud_ne (by omega), ud_ne (by omega), ud_ne (by omega), ud_ne (by omega)]
      have w5 : (ud (ud (ud (ud g (hA c + 1) k) (hA c + 2) 0) (hA c + 3) 0) 17 (g 17 + 1)) (hA c_ + 3) = g (hA c_ + 3) := by rw [ud_ne (by omega), ud_ne (by omega), ud_ne (by omega), ud_ne (by omega)]
      have x0 : (ud (ud (ud (ud (ud f (cA c + 7) 1) (cA c + 1) k) (cA c + 2) 0) (cA c + 3) 0) 11 (f 11 + 1)) (cA c_ + 0) = (ud (ud (ud (ud g (hA c + 1) k) (hA c + 2) 0) (hA c + 3) 0) 17 (g 17 + 1)) (hA c_ + 0) := by
        rw [ud_ne (by omega), ud_ne (by omega), ud_ne (by omega), ud_ne (by omega), ud_ne (by omega), ud_ne (by omega), ud_ne (by omega), ud_ne (by omega), ud_ne (by omega)] <;> (first | omega | exact q.1)
      have x1 : (ud (ud (ud (ud (ud f (cA c + 7) 1) (cA c + 1) k) (cA c + 2) 0) (cA c + 3) 0) 11 (f 11 + 1)) (cA c_ + 2) = (ud (ud (ud (ud g (hA c + 1) k) (hA c + 2) 0) (hA c + 3) 0) 17 (g 17 + 1)) (hA c_ + 2) := by
        rw [ud_ne (by omega), ud_ne (by omega), ud_ne (by omega), ud_ne (by omega), ud_ne (by omega), ud_ne (by omega), ud_ne (by omega), ud_ne (by omega), ud_ne (by omega)] <;> (first | omega | exact q.2.1)
      have x2 : (ud (ud (ud (ud (ud f (cA c + 7) 1) (cA c + 1) k) (cA c + 2) 0) (cA c + 3) 0) 11 (f 11 + 1)) (cA c_ + 4) = (ud (ud (ud (ud g (hA c + 1) k) (hA c + 2) 0) (hA c + 3) 0) 17 (g 17 + 1)) (hA c_ + 4) := by
        rw [ud_ne (by omega), ud_ne (by omega), ud_ne (by omega), ud_ne (by omega), ud_ne (by omega), ud_ne (by omega), ud_ne (by omega), ud_ne (by omega), ud_ne (by omega)] <;> (first | omega | exact q.2.2.1)
      have x3 : (ud (ud (ud (ud (ud f (cA c + 7) 1) (cA c + 1) k) (cA c + 2) 0) (cA c + 3) 0) 11 (f 11 + 1)) (cA c_ + 5) = (ud (ud (ud (ud g (hA c + 1) k) (hA c + 2) 0) (hA c + 3) 0) 17 (g 17 + 1)) (hA c_ + 5) := by
        rw [ud_ne (by omega), ud_ne (by omega), ud_ne (by omega), ud_ne (by omega), ud_ne (by omega), ud_ne (by omega), ud_ne (by omega), ud_ne (by omega), ud_ne (by omega)] <;> (first | omega | exact q.2.2.2.1)
      have x4 : (ud (ud (ud (ud (ud f (cA c + 7) 1) (cA c + 1) k) (cA c + 2) 0) (cA c + 3) 0) 11 (f 11 + 1)) (cA c_ + 6) = (ud (ud (ud (ud g (hA c + 1) k) (hA c + 2) 0) (hA c + 3) 0) 17 (g 17 + 1)) (hA c_ + 6) := by
        rw [ud_ne (by omega), ud_ne (by omega), ud_ne (by omega), ud_ne (by omega), ud_ne (by omega), ud_ne (by omega), ud_ne (by omega), ud_ne (by omega), ud_ne (by omega)] <;> (first | omega | exact q.2.2.2.2.1)
      refine ⟨x0, x1, x2, x3, x4, ?_, ?_⟩
      · rw [w2]; omega
      · rw [w1, w2, w3, w4, w5]; omega
  have hS_ : SmS (ud (ud (ud (ud (ud f (cA c + 7) 1) (cA c + 1) k) (cA c + 2) 0) (cA c + 3) 0) 11 (f 11 + 1)) (ud (ud (ud (ud g (hA c + 1) k) (hA c + 2) 0) (hA c + 3) 0) 17 (g 17 + 1)) := by
    intro a_ k_ u0 u1
    have q := h.S a_ k_ u0 u1
    have b1 := sA_b u0 u1
    have b2 := eA_b u0 u1
    have b3 := oA_b u0 u1
    have b4 := lA_b u0 u1
    have b5 := dA_b u0 u1
    refine ⟨?_, ?_, ?_, ?_, ?_, ?_, ?_, ?_, ?_, ?_, ?_, ?_⟩
    · rw [ud_ne (by omega), ud_ne (by omega), ud_ne (by omega), ud_ne (by omega), ud_ne (by omega), ud_ne (by omega), ud_ne (by omega), ud_ne (by omega), ud_ne (by omega)] <;> (exact q.1)
    · rw [ud_ne (by omega), ud_ne (by omega), ud_ne (by omega), ud_ne (by omega), ud_ne (by omega), ud_ne (by omega), ud_ne (by omega), ud_ne (by omega), ud_ne (by omega)] <;> (exact q.2.1)
    · rw [ud_ne (by omega), ud_ne (by omega), ud_ne (by omega), ud_ne (by omega), ud_ne (by omega), ud_ne (by omega), ud_ne (by omega), ud_ne (by omega), ud_ne (by omega)] <;> (exact q.2.2.1)
    · rw [ud_ne (by omega), ud_ne (by omega), ud_ne (by omega), ud_ne (by omega), ud_ne (by omega), ud_ne (by omega), ud_ne (by omega), ud_ne (by omega), ud_ne (by omega)] <;> (exact q.2.2.2.1)
    · rw [ud_ne (by omega), ud_ne (by omega), ud_ne (by omega), ud_ne (by omega), ud_ne (by omega), ud_ne (by omega), ud_ne (by omega), ud_ne (by omega), ud_ne (by omega)] <;> (exact q.2.2.2.2.1)
    · rw [ud_ne (by omega), ud_ne (by omega), ud_ne (by omega), ud_ne (by omega), ud_ne (by omega), ud_ne (by omega), ud_ne (by omega), ud_ne (by omega), ud_ne (by omega), ud_ne (by omega), ud_ne (by omega), ud_ne (by omega), ud_ne (by omega)] <;> (exact q.2.2.2.2.2.1)
    · rw [ud_ne (by omega), ud_ne (by omega), ud_ne (by omega), ud_ne (by omega), ud_ne (by omega), ud_ne (by omega), ud_ne (by omega), ud_ne (by omega), ud_ne (by omega)] <;> (exact q.2.2.2.2.2.2.1)
    · rw [ud_ne (by omega), ud_ne (by omega), ud_ne (by omega), ud_ne (by omega), ud_ne (by omega), ud_ne (by omega), ud_ne (by omega), ud_ne (by omega), ud_ne (by omega), ud_ne (by omega), ud_ne (by omega), ud_ne (by omega), ud_ne (by omega)] <;> (exact q.2.2.2.2.2.2.2.1)
    · rw [ud_ne (by omega), ud_ne (by omega), ud_ne (by omega), ud_ne (by omega), ud_ne (by omega), ud_ne (by omega), ud_ne (by omega), ud_ne (by omega), ud_ne (by omega)] <;> (exact q.2.2.2.2.2.2.2.2.1)
    · rw [ud_ne (by omega), ud_ne (by omega), ud_ne (by omega), ud_ne (by omega), ud_ne (by omega), ud_ne (by omega), ud_ne (by omega), ud_ne (by omega), ud_ne (by omega)] <;> (exact q.2.2.2.2.2.2.2.2.2.1)
    · rw [ud_ne (by omega), ud_ne (by omega), ud_ne (by omega), ud_ne (by omega), ud_ne (by omega), ud_ne (by omega), ud_ne (by omega), ud_ne (by omega), ud_ne (by omega), ud_ne (by omega), ud_ne (by omega), ud_ne (by omega), ud_ne (by omega)] <;> (exact q.2.2.2.2.2.2.2.2.2.2.1)
    · rw [ud_ne (by omega), ud_ne (by omega), ud_ne (by omega), ud_ne (by omega), ud_ne (by omega), ud_ne (by omega), ud_ne (by omega), ud_ne (by omega), ud_ne (by omega), ud_ne (by omega), ud_ne (by omega), ud_ne (by omega), ud_ne (by omega)] <;> (exact q.2.2.2.2.2.2.2.2.2.2.2)
  have hZ_ : SmZ (ud (ud (ud (ud (ud f (cA c + 7) 1) (cA c + 1) k) (cA c + 2) 0) (cA c + 3) 0) 11 (f 11 + 1)) := by
    intro j u0
    rw [ud_ne (by omega), ud_ne (by omega), ud_ne (by omega), ud_ne (by omega), ud_ne (by omega)]
    exact h.Z j u0
  exact ⟨hA_, hT_, hL_, hE_, hP_, hO_, hC_, hM_, hV_, hW_, hJ_, hH_, hS_, hZ_⟩
end SG
