/-! acts on both rows: write, apply -/
section SW
variable {f g : Int → Int} {B : Int}
/-- what is applied has been written -/
def PM (g : Int → Int) : Prop := ∀ r, 0 ≤ r ∧ r < 3 → g (10 + r) ≤ g 2
set_option maxHeartbeats 4000000 in
theorem sm_wr {N k v c : Int} (hN : g 2 = N) (hN2 : 0 ≤ N ∧ N < 60) (hP : PM g) (hk : 0 ≤ k ∧ k < 10) (h : Sm0 f g) (hI : IM B g) : Sm0 (ud (ud (ud (ud (ud f (jA (N + 1) + 0) k) (jA (N + 1) + 1) v) (jA (N + 1) + 2) c) 1 (N + 1)) (102 + k) (N + 1)) (ud (ud (ud (ud g (36 + 3 * N) k) (36 + 3 * N + 1) v) (36 + 3 * N + 2) c) 2 (N + 1)) := by
  have pj := jA_b (n := N + 1) (by omega)
  have hA_ : SmA (ud (ud (ud (ud (ud f (jA (N + 1) + 0) k) (jA (N + 1) + 1) v) (jA (N + 1) + 2) c) 1 (N + 1)) (102 + k) (N + 1)) (ud (ud (ud (ud g (36 + 3 * N) k) (36 + 3 * N + 1) v) (36 + 3 * N + 2) c) 2 (N + 1)) := by
    have q := h.A
    unfold SmA at q
    refine ⟨?_, ?_, ?_⟩
    · rw [ud_ne (by omega), ud_ne (by omega), ud_ne (by omega), ud_ne (by omega), ud_ne (by omega), ud_ne (by omega), ud_ne (by omega), ud_ne (by omega), ud_ne (by omega)] <;> omega
    · rw [ud_ne (by omega), ud_eq, ud_eq] <;> omega
    · rw [ud_ne (by omega), ud_ne (by omega), ud_ne (by omega), ud_ne (by omega), ud_ne (by omega), ud_ne (by omega), ud_ne (by omega), ud_ne (by omega), ud_ne (by omega)] <;> omega
  have hT_ : SmT (ud (ud (ud (ud (ud f (jA (N + 1) + 0) k) (jA (N + 1) + 1) v) (jA (N + 1) + 2) c) 1 (N + 1)) (102 + k) (N + 1)) (ud (ud (ud (ud g (36 + 3 * N) k) (36 + 3 * N + 1) v) (36 + 3 * N + 2) c) 2 (N + 1)) := by
    intro i u0
    rw [ud_ne (by omega), ud_ne (by omega), ud_ne (by omega), ud_ne (by omega), ud_ne (by omega), ud_ne (by omega), ud_ne (by omega), ud_ne (by omega), ud_ne (by omega)]
    exact h.T i u0
  have hL_ : SmL (ud (ud (ud (ud (ud f (jA (N + 1) + 0) k) (jA (N + 1) + 1) v) (jA (N + 1) + 2) c) 1 (N + 1)) (102 + k) (N + 1)) (ud (ud (ud (ud g (36 + 3 * N) k) (36 + 3 * N + 1) v) (36 + 3 * N + 2) c) 2 (N + 1)) := by
    intro i u0
    rw [ud_ne (by omega), ud_ne (by omega), ud_ne (by omega), ud_ne (by omega), ud_ne (by omega), ud_ne (by omega), ud_ne (by omega), ud_ne (by omega), ud_ne (by omega)]
    exact h.L i u0
  have hE_ : SmE (ud (ud (ud (ud (ud f (jA (N + 1) + 0) k) (jA (N + 1) + 1) v) (jA (N + 1) + 2) c) 1 (N + 1)) (102 + k) (N + 1)) (ud (ud (ud (ud g (36 + 3 * N) k) (36 + 3 * N + 1) v) (36 + 3 * N + 2) c) 2 (N + 1)) := by
    intro k_ u0
    rw [ud_ne (by omega), ud_ne (by omega), ud_ne (by omega), ud_ne (by omega), ud_ne (by omega), ud_ne (by omega), ud_ne (by omega), ud_ne (by omega), ud_ne (by omega)]
    exact h.E k_ u0
  have hP_ : SmP (ud (ud (ud (ud (ud f (jA (N + 1) + 0) k) (jA (N + 1) + 1) v) (jA (N + 1) + 2) c) 1 (N + 1)) (102 + k) (N + 1)) (ud (ud (ud (ud g (36 + 3 * N) k) (36 + 3 * N + 1) v) (36 + 3 * N + 2) c) 2 (N + 1)) := by
    intro r_ u0
    rw [ud_ne (by omega), ud_ne (by omega), ud_ne (by omega), ud_ne (by omega), ud_ne (by omega), ud_ne (by omega), ud_ne (by omega), ud_ne (by omega), ud_ne (by omega)]
    exact h.P r_ u0
  have hO_ : SmO (ud (ud (ud (ud (ud f (jA (N + 1) + 0) k) (jA (N + 1) + 1) v) (jA (N + 1) + 2) c) 1 (N + 1)) (102 + k) (N + 1)) (ud (ud (ud (ud g (36 + 3 * N) k) (36 + 3 * N + 1) v) (36 + 3 * N + 2) c) 2 (N + 1)) := by
    intro r_ u0
    rw [ud_ne (by omega), ud_ne (by omega), ud_ne (by omega), ud_ne (by omega), ud_ne (by omega), ud_ne (by omega), ud_ne (by omega), ud_ne (by omega), ud_ne (by omega)]
    exact h.O r_ u0
  have hC_ : SmC (ud (ud (ud (ud (ud f (jA (N + 1) + 0) k) (jA (N + 1) + 1) v) (jA (N + 1) + 2) c) 1 (N + 1)) (102 + k) (N + 1)) (ud (ud (ud (ud g (36 + 3 * N) k) (36 + 3 * N + 1) v) (36 + 3 * N + 2) c) 2 (N + 1)) := by
    intro a_ u0
    rw [ud_ne (by omega), ud_ne (by omega), ud_ne (by omega), ud_ne (by omega), ud_ne (by omega), ud_ne (by omega), ud_ne (by omega), ud_ne (by omega), ud_ne (by omega)]
    exact h.C a_ u0
  have hM_ : SmM (ud (ud (ud (ud (ud f (jA (N + 1) + 0) k) (jA (N + 1) + 1) v) (jA (N + 1) + 2) c) 1 (N + 1)) (102 + k) (N + 1)) (ud (ud (ud (ud g (36 + 3 * N) k) (36 + 3 * N + 1) v) (36 + 3 * N + 2) c) 2 (N + 1)) := by
    intro r_ k_ u0 u1
    rw [ud_ne (by omega), ud_ne (by omega), ud_ne (by omega), ud_ne (by omega), ud_ne (by omega), ud_ne (by omega), ud_ne (by omega), ud_ne (by omega), ud_ne (by omega)]
    exact h.M r_ k_ u0 u1
  have hJ_ : SmJ (ud (ud (ud (ud (ud f (jA (N + 1) + 0) k) (jA (N + 1) + 1) v) (jA (N + 1) + 2) c) 1 (N + 1)) (102 + k) (N + 1)) (ud (ud (ud (ud g (36 + 3 * N) k) (36 + 3 * N + 1) v) (36 + 3 * N + 2) c) 2 (N + 1)) := by
    intro n i u0 u1
    rcases Decidable.em (N + 1 = n) with e | e
    · subst e
      rcases (by omega : i = 0 ∨ i = 1 ∨ i = 2) with rfl | rfl | rfl
      · rw [ud_ne (by omega), ud_ne (by omega), ud_ne (by omega), ud_ne (by omega), ud_eq, ud_ne (by omega), ud_ne (by omega), ud_ne (by omega), ud_at (by omega)]
      · rw [ud_ne (by omega), ud_ne (by omega), ud_ne (by omega), ud_eq, ud_ne (by omega), ud_ne (by omega), ud_at (by omega)]
      · rw [ud_ne (by omega), ud_ne (by omega), ud_eq, ud_ne (by omega), ud_at (by omega)]
    · have hj := jA_b u0
      have hd : jA n + 3 ≤ jA (N + 1) ∨ jA (N + 1) + 3 ≤ jA n := by unfold jA; omega
      rw [ud_ne (by omega), ud_ne (by omega), ud_ne (by omega), ud_ne (by omega), ud_ne (by omega), ud_ne (by omega), ud_ne (by omega), ud_ne (by omega), ud_ne (by omega)]
      exact h.J n i u0 u1
  have hL2 : ∀ k' n, n ≤ N → lastI (ud (ud (ud (ud g (36 + 3 * N) k) (36 + 3 * N + 1) v) (36 + 3 * N + 2) c) 2 (N + 1)) k' n = lastI g k' n := fun k' n hn => lastL_low (N := N) (fun x hx => by rw [ud_ne (by omega), ud_ne (by omega), ud_ne (by omega), ud_ne (by omega)]) 60 n hn
  have hV_ : SmV (ud (ud (ud (ud (ud f (jA (N + 1) + 0) k) (jA (N + 1) + 1) v) (jA (N + 1) + 2) c) 1 (N + 1)) (102 + k) (N + 1)) (ud (ud (ud (ud g (36 + 3 * N) k) (36 + 3 * N + 1) v) (36 + 3 * N + 2) c) 2 (N + 1)) := by
    intro r_ k_ u0 u1
    have hp := hP r_ u0
    rw [ud_ne (j := 2) (k := 10 + r_) (by omega), ud_ne (k := 10 + r_) (by omega), ud_ne (k := 10 + r_) (by omega), ud_ne (k := 10 + r_) (by omega), hL2 _ _ (by omega), ud_ne (by omega), ud_ne (by omega), ud_ne (by omega), ud_ne (by omega), ud_ne (by omega)]
    exact h.V r_ k_ u0 u1
  have hW_ : SmW (ud (ud (ud (ud (ud f (jA (N + 1) + 0) k) (jA (N + 1) + 1) v) (jA (N + 1) + 2) c) 1 (N + 1)) (102 + k) (N + 1)) (ud (ud (ud (ud g (36 + 3 * N) k) (36 + 3 * N + 1) v) (36 + 3 * N + 2) c) 2 (N + 1)) := by
    intro k_ u0
    rw [ud_eq (j := 2), lastI_step (by omega), hL2 _ _ (by omega)]
    rcases Decidable.em (k = k_) with e | e
    · subst e
      rw [if_pos (by rw [ud_ne (by omega), ud_ne (by omega), ud_ne (by omega), ud_eq]), ud_eq]
    · rw [if_neg (by rw [ud_ne (by omega), ud_ne (by omega), ud_ne (by omega), ud_eq]; exact e), ud_ne (by omega), ud_ne (by omega), ud_ne (by omega), ud_ne (by omega), ud_ne (by omega)]
      have q := h.W k_ u0
      rw [hN] at q
      exact q
  have hH_ : SmH (ud (ud (ud (ud (ud f (jA (N + 1) + 0) k) (jA (N + 1) + 1) v) (jA (N + 1) + 2) c) 1 (N + 1)) (102 + k) (N + 1)) (ud (ud (ud (ud g (36 + 3 * N) k) (36 + 3 * N + 1) v) (36 + 3 * N + 2) c) 2 (N + 1)) := by
    intro c_ u0
    have q := h.H c_ u0
    have hc1 := cA_b (c := c_) u0
    have hc2 := hA_b (c := c_) u0
    have w1 : (ud (ud (ud (ud (ud f (jA (N + 1) + 0) k) (jA (N + 1) + 1) v) (jA (N + 1) + 2) c) 1 (N + 1)) (102 + k) (N + 1)) (cA c_ + 7) = f (cA c_ + 7) := by rw [ud_ne (by omega), ud_ne (by omega), ud_ne (by omega), ud_ne (by omega), ud_ne (by omega)]
    have w2 : (ud (ud (ud (ud (ud f (jA (N + 1) + 0) k) (jA (N + 1) + 1) v) (jA (N + 1) + 2) c) 1 (N + 1)) (102 + k) (N + 1)) (cA c_ + 1) = f (cA c_ + 1) := by rw [ud_ne (by omega), ud_ne (by omega), ud_ne (by omega), ud_ne (by omega), ud_ne (by omega)]
    have w3 : (ud (ud (ud (ud (ud f (jA (N + 1) + 0) k) (jA (N + 1) + 1) v) (jA (N + 1) + 2) c) 1 (N + 1)) (102 + k) (N + 1)) (cA c_ + 3) = f (cA c_ + 3) := by rw [ud_ne (by omega), ud_ne (by omega), ud_ne (by omega), ud_ne (by omega), ud_ne (by omega)]
    have w4 : (ud (ud (ud (ud g (36 + 3 * N) k) (36 + 3 * N + 1) v) (36 + 3 * N + 2) c) 2 (N + 1)) (hA c_ + 1) = g (hA c_ + 1) := by rw [ud_ne (by omega), ud_ne (by omega), ud_ne (by omega), ud_ne (by omega)]
    have w5 : (ud (ud (ud (ud g (36 + 3 * N) k) (36 + 3 * N + 1) v) (36 + 3 * N + 2) c) 2 (N + 1)) (hA c_ + 3) = g (hA c_ + 3) := by rw [ud_ne (by omega), ud_ne (by omega), ud_ne (by omega), ud_ne (by omega)]
    have x0 : (ud (ud (ud (ud (ud f (jA (N + 1) + 0) k) (jA (N + 1) + 1) v) (jA (N + 1) + 2) c) 1 (N + 1)) (102 + k) (N + 1)) (cA c_ + 0) = (ud (ud (ud (ud g (36 + 3 * N) k) (36 + 3 * N + 1) v) (36 + 3 * N + 2) c) 2 (N + 1)) (hA c_ + 0) := by
      rw [ud_ne (by omega), ud_ne (by omega), ud_ne (by omega), ud_ne (by omega), ud_ne (by omega), ud_ne (by omega), ud_ne (by omega), ud_ne (by omega), ud_ne (by omega)] <;> (first | omega | exact q.1)
    have x1 : (ud (ud (ud (ud (ud f (jA (N + 1) + 0) k) (jA (N + 1) + 1) v) (jA (N + 1) + 2) c) 1 (N + 1)) (102 + k) (N + 1)) (cA c_ + 2) = (ud (ud (ud (ud g (36 + 3 * N) k) (36 + 3 * N + 1) v) (36 + 3 * N + 2) c) 2 (N + 1)) (hA c_ + 2) := by
      rw [ud_ne (by omega), ud_ne (by omega), ud_ne (by omega), ud_ne (by omega), ud_ne (by omega), ud_ne (by omega), ud_ne (by omega), ud_ne (by omega), ud_ne (by omega)] <;> (first | omega | exact q.2.1)
    have x2 : (ud (ud (ud (ud (ud f (jA (N + 1) + 0) k) (jA (N + 1) + 1) v) (jA (N + 1) + 2) c) 1 (N + 1)) (102 + k) (N + 1)) (cA c_ + 4) = (ud (ud (ud (ud g (36 + 3 * N) k) (36 + 3 * N + 1) v) (36 + 3 * N + 2) c) 2 (N + 1)) (hA c_ + 4) := by
      rw [ud_ne (by omega), ud_ne (by omega), ud_ne (by omega), ud_ne (by omega), ud_ne (by omega), ud_ne (by omega), ud_ne (by omega), ud_ne (by omega), ud_ne (by omega)] <;> (first | omega | exact q.2.2.1)
    have x3 : (ud (ud (ud (ud (ud f (jA (N + 1) + 0) k) (jA (N + 1) + 1) v) (jA (N + 1) + 2) c) 1 (N + 1)) (102 + k) (N + 1)) (cA c_ + 5) = (ud (ud (ud (ud g (36 + 3 * N) k) (36 + 3 * N + 1) v) (36 + 3 * N + 2) c) 2 (N + 1)) (hA c_ + 5) := by
      rw [ud_ne (by omega), ud_ne (by omega), ud_ne (by omega), ud_ne (by omega), ud_ne (by omega), ud_ne (by omega), ud_ne (by omega), ud_ne (by omega), ud_ne (by omega)] <;> (first | omega | exact q.2.2.2.1)
    have x4 : (ud (ud (ud (ud (ud f (jA (N + 1) + 0) k) (jA (N + 1) + 1) v) (jA (N + 1) + 2) c) 1 (N + 1)) (102 + k) (N + 1)) (cA c_ + 6) = (ud (ud (ud (ud g (36 + 3 * N) k) (36 + 3 * N + 1) v) (36 + 3 * N + 2) c) 2 (N + 1)) (hA c_ + 6) := by
      rw [ud_ne (by omega), ud_ne (by omega), ud_ne (by omega), ud_ne (by omega), ud_ne (by omega), ud_ne (by omega), ud_ne (by omega), ud_ne (by omega), ud_ne (by omega)] <;> (first | omega | exact q.2.2.2.2.1)
    refine ⟨x0, x1, x2, x3, x4, ?_, ?_⟩
    · rw [w2]; omega
    · rw [w1, w2, w3, w4, w5]; omega
  have hS_ : SmS (ud (ud (ud (ud (ud f (jA (N + 1) + 0) k) (jA (N + 1) + 1) v) (jA (N + 1) + 2) c) 1 (N + 1)) (102 + k) (N + 1)) (ud (ud (ud (ud g (36 + 3 * N) k) (36 + 3 * N + 1) v) (36 + 3 * N + 2) c) 2 (N + 1)) := by
    intro a_ k_ u0 u1
    have q := h.S a_ k_ u0 u1
    have b1 := sA_b u0 u1
    have b2 := eA_b u0 u1
    have b3 := oA_b u0 u1
    have b4 := lA_b u0 u1
    have b5 := dA_b u0 u1
    refine ⟨?_, ?_, ?_, ?_, ?_, ?_, ?_, ?_, ?_, ?_, ?_, ?_⟩
    · rw [ud_ne (by omega), ud_ne (by omega), ud_ne (by omega), ud_ne (by omega), ud_ne (by omega), ud_ne (by omega), ud_ne (by omega), ud_ne (by omega), ud_ne (by omega)] <;> (exact q.1)
    · rw [ud_ne (by omega), ud_ne (by omega), ud_ne (by omega), ud_ne (by omega), ud_ne (by omega), ud_ne (by omega), ud_ne (by omega), ud_ne (by omega), ud_ne (by omega)] <;> (exact q.2.1)
    · rw [ud_ne (by omega), ud_ne (by omega), ud_ne (by omega), ud_ne (by omega), ud_ne (by omega), ud_ne (by omega), ud_ne (by omega), ud_ne (by omega), ud_ne (by omega)] <;> (exact q.2.2.1)
    · rw [ud_ne (by omega), ud_ne (by omega), ud_ne (by omega), ud_ne (by omega), ud_ne (by omega), ud_ne (by omega), ud_ne (by omega), ud_ne (by omega), ud_ne (by omega)] <;> (exact q.2.2.2.1)
    · rw [ud_ne (by omega), ud_ne (by omega), ud_ne (by omega), ud_ne (by omega), ud_ne (by omega), ud_ne (by omega), ud_ne (by omega), ud_ne (by omega), ud_ne (by omega)] <;> (exact q.2.2.2.2.1)
    · rw [ud_ne (by omega), ud_ne (by omega), ud_ne (by omega), ud_ne (by omega), ud_ne (by omega), ud_ne (by omega), ud_ne (by omega), ud_ne (by omega), ud_ne (by omega), ud_ne (by omega), ud_ne (by omega), ud_ne (by omega), ud_ne (by omega)] <;> (exact q.2.2.2.2.2.1)
    · rw [ud_ne (by omega), ud_ne (by omega), ud_ne (by omega), ud_ne (by omega), ud_ne (by omega), ud_ne (by omega), ud_ne (by omega), ud_ne (by omega), ud_ne (by omega)] <;> (exact q.2.2.2.2.2.2.1)
    · rw [ud_ne (by omega), ud_ne (by omega), ud_ne (by omega), ud_ne (by omega), ud_ne (by omega), ud_ne (by omega), ud_ne (by omega), ud_ne (by omega), ud_ne (by omega), ud_ne (by omega), ud_ne (by omega), ud_ne (by omega), ud_ne (by omega)] <;> (exact q.2.2.2.2.2.2.2.1)
    · rw [ud_ne (by omega), ud_ne (by omega), ud_ne (by omega), ud_ne (by omega), ud_ne (by omega), ud_ne (by omega), ud_ne (by omega), ud_ne (by omega), ud_ne (by omega)] <;> (exact q.2.2.2.2.2.2.2.2.1)
    · rw [ud_ne (by omega), ud_ne (by omega), ud_ne (by omega), ud_ne (by omega), ud_ne (by omega), ud_ne (by omega), ud_ne (by omega), ud_ne (by omega), ud_ne (by omega)] <;> (exact q.2.2.2.2.2.2.2.2.2.1)
    · rw [ud_ne (by omega), ud_ne (by omega), ud_ne (by omega), ud_ne (by omega), ud_ne (by omega), ud_ne (by omega), ud_ne (by omega), ud_ne (by omega), ud_ne (by omega), ud_ne (by omega), ud_ne (by omega), ud_ne (by omega), ud_ne (by omega)] <;> (exact q.2.2.2.2.2.2.2.2.2.2.1)
    · rw [ud_ne (by omega), ud_ne (by omega), ud_ne (by omega), ud_ne (by omega), ud_ne (by omega), ud_ne (by omega), ud_ne (by omega), ud_ne (by omega), ud_ne (by omega), ud_ne (by omega), ud_ne (by omega), ud_ne (by omega), ud_ne (by omega)] <;> (exact q.2.2.2.2.2.2.2.2.2.2.2)
  have hZ_ : SmZ (ud (ud (ud (ud (ud f (jA (N + 1) + 0) k) (jA (N + 1) + 1) v) (jA (N + 1) + 2) c) 1 (N + 1)) (102 + k) (N + 1)) := by
    intro j u0
    rw [ud_ne (by omega), ud_ne (by omega), ud_ne (by omega), ud_ne (by omega), ud_ne (by omega)]
    exact h.Z j u0
  exact ⟨hA_, hT_, hL_, hE_, hP_, hO_, hC_, hM_, hV_, hW_, hJ_, hH_, hS_, hZ_⟩
set_option maxHeartbeats 4000000 in
theorem sm_mark {r k m : Int} (hr : 0 ≤ r ∧ r < 3) (hk : 0 ≤ k ∧ k < 10) (h : Sm0 f g) (hI : IM B g) : Sm0 (ud f (42 + r * 10 + k) m) (ud g (942 + 10 * r + k) m) := by
  have hA_ : SmA (ud f (42 + r * 10 + k) m) (ud g (942 + 10 * r + k) m) := by
    have q := h.A
    unfold SmA at q
    refine ⟨?_, ?_, ?_⟩
    · rw [ud_ne (by omega), ud_ne (by omega)] <;> omega
    · rw [ud_ne (by omega), ud_ne (by omega)] <;> omega
    · rw [ud_ne (by omega), ud_ne (by omega)] <;> omega
  have hT_ : SmT (ud f (42 + r * 10 + k) m) (ud g (942 + 10 * r + k) m) := by
    intro i u0
    rw [ud_ne (by omega), ud_ne (by omega)]
    exact h.T i u0
  have hL_ : SmL (ud f (42 + r * 10 + k) m) (ud g (942 + 10 * r + k) m) := by
    intro i u0
    rw [ud_ne (by omega), ud_ne (by omega)]
    exact h.L i u0
  have hE_ : SmE (ud f (42 + r * 10 + k) m) (ud g (942 + 10 * r + k) m) := by
    intro k_ u0
    rw [ud_ne (by omega), ud_ne (by omega)]
    exact h.E k_ u0
  have hP_ : SmP (ud f (42 + r * 10 + k) m) (ud g (942 + 10 * r + k) m) := by
    intro r_ u0
    rw [ud_ne (by omega), ud_ne (by omega)]
    exact h.P r_ u0
  have hO_ : SmO (ud f (42 + r * 10 + k) m) (ud g (942 + 10 * r + k) m) := by
    intro r_ u0
    rw [ud_ne (by omega), ud_ne (by omega)]
    exact h.O r_ u0
  have hC_ : SmC (ud f (42 + r * 10 + k) m) (ud g (942 + 10 * r + k) m) := by
    intro a_ u0
    rw [ud_ne (by omega), ud_ne (by omega)]
    exact h.C a_ u0
  have hM_ : SmM (ud f (42 + r * 10 + k) m) (ud g (942 + 10 * r + k) m) := by
    intro r_ k_ u0 u1
    rcases Decidable.em (r = r_ ∧ k = k_) with e | e
    · obtain ⟨rfl, rfl⟩ := e
      have q := h.M r k u0 u1
      rw [ud_eq, ud_eq] <;> (first | exact q | omega | (simp only [Int.reduceAdd, Int.add_zero] at *; omega))
    · skip
      rw [ud_ne (by omega), ud_ne (by omega)]
      exact h.M r_ k_ u0 u1
  have hJ_ : SmJ (ud f (42 + r * 10 + k) m) (ud g (942 + 10 * r + k) m) := by
    intro n i u0 u1
    have hj := jA_b u0
    rw [ud_ne (by omega), ud_ne (by omega)]
    exact h.J n i u0 u1
  have hK : ∀ n, 1 ≤ n ∧ n ≤ 60 → (ud g (942 + 10 * r + k) m) (36 + 3 * (n - 1)) = g (36 + 3 * (n - 1)) := by
    intro n u0
    rw [ud_ne (by omega)]
  have hV_ : SmV (ud f (42 + r * 10 + k) m) (ud g (942 + 10 * r + k) m) := by
    intro r_ k_ u0 u1
    rw [lastI_cong hK (by rw [ud_ne (by omega)]; exact (hI.n60 (by omega)).2)]
    rw [ud_ne (by omega), ud_ne (by omega)]
    exact h.V r_ k_ u0 u1
  have hW_ : SmW (ud f (42 + r * 10 + k) m) (ud g (942 + 10 * r + k) m) := by
    intro k_ u0
    rw [lastI_cong hK (by rw [ud_ne (by omega)]; exact (hI.n60 (by omega)).2)]
    rw [ud_ne (by omega), ud_ne (by omega)]
    exact h.W k_ u0
  have hH_ : SmH (ud f (42 + r * 10 + k) m) (ud g (942 + 10 * r + k) m) := by
    intro c_ u0
    have q := h.H c_ u0
    have hc1 := cA_b (c := c_) u0
    have hc2 := hA_b (c := c_) u0
    have w1 : (ud f (42 + r * 10 + k) m) (cA c_ + 7) = f (cA c_ + 7) := by rw [ud_ne (by omega)]
    have w2 : (ud f (42 + r * 10 + k) m) (cA c_ + 1) = f (cA c_ + 1) := by rw [ud_ne (by omega)]
    have w3 : (ud f (42 + r * 10 + k) m) (cA c_ + 3) = f (cA c_ + 3) := by rw [ud_ne (by omega)]
    have w4 : (ud g (942 + 10 * r + k) m) (hA c_ + 1) = g (hA c_ + 1) := by rw [ud_ne (by omega)]
    have w5 : (ud g (942 + 10 * r + k) m) (hA c_ + 3) = g (hA c_ + 3) := by rw [ud_ne (by omega)]
    have x0 : (ud f (42 + r * 10 + k) m) (cA c_ + 0) = (ud g (942 + 10 * r + k) m) (hA c_ + 0) := by
      rw [ud_ne (by omega), ud_ne (by omega)] <;> (first | omega | exact q.1)
    have x1 : (ud f (42 + r * 10 + k) m) (cA c_ + 2) = (ud g (942 + 10 * r + k) m) (hA c_ + 2) := by
      rw [ud_ne (by omega), ud_ne (by omega)] <;> (first | omega | exact q.2.1)
    have x2 : (ud f (42 + r * 10 + k) m) (cA c_ + 4) = (ud g (942 + 10 * r + k) m) (hA c_ + 4) := by
      rw [ud_ne (by omega), ud_ne (by omega)] <;> (first | omega | exact q.2.2.1)
    have x3 : (ud f (42 + r * 10 + k) m) (cA c_ + 5) = (ud g (942 + 10 * r + k) m) (hA c_ + 5) := by
      rw [ud_ne (by omega), ud_ne (by omega)] <;> (first | omega | exact q.2.2.2.1)
    have x4 : (ud f (42 + r * 10 + k) m) (cA c_ + 6) = (ud g (942 + 10 * r + k) m) (hA c_ + 6) := by
      rw [ud_ne (by omega), ud_ne (by omega)] <;> (first | omega | exact q.2.2.2.2.1)
    refine ⟨x0, x1, x2, x3, x4, ?_, ?_⟩
    · rw [w2]; omega
    · rw [w1, w2, w3, w4, w5]; omega
  have hS_ : SmS (ud f (42 + r * 10 + k) m) (ud g (942 + 10 * r + k) m) := by
    intro a_ k_ u0 u1
    have q := h.S a_ k_ u0 u1
    have b1 := sA_b u0 u1
    have b2 := eA_b u0 u1
    have b3 := oA_b u0 u1
    have b4 := lA_b u0 u1
    have b5 := dA_b u0 u1
    refine ⟨?_, ?_, ?_, ?_, ?_, ?_, ?_, ?_, ?_, ?_, ?_, ?_⟩
    · rw [ud_ne (by omega), ud_ne (by omega)] <;> (exact q.1)
    · rw [ud_ne (by omega), ud_ne (by omega)] <;> (exact q.2.1)
    · rw [ud_ne (by omega), ud_ne (by omega)] <;> (exact q.2.2.1)
    · rw [ud_ne (by omega), ud_ne (by omega)] <;> (exact q.2.2.2.1)
    · rw [ud_ne (by omega), ud_ne (by omega)] <;> (exact q.2.2.2.2.1)
    · rw [ud_ne (by omega), ud_ne (by omega), ud_ne (by omega)] <;> (exact q.2.2.2.2.2.1)
    · rw [ud_ne (by omega), ud_ne (by omega)] <;> (exact q.2.2.2.2.2.2.1)
    · rw [ud_ne (by omega), ud_ne (by omega), ud_ne (by omega)] <;> (exact q.2.2.2.2.2.2.2.1)
    · rw [ud_ne (by omega), ud_ne (by omega)] <;> (exact q.2.2.2.2.2.2.2.2.1)
    · rw [ud_ne (by omega), ud_ne (by omega)] <;> (exact q.2.2.2.2.2.2.2.2.2.1)
    · rw [ud_ne (by omega), ud_ne (by omega), ud_ne (by omega)] <;> (exact q.2.2.2.2.2.2.2.2.2.2.1)
    · rw [ud_ne (by omega), ud_ne (by omega), ud_ne (by omega)] <;> (exact q.2.2.2.2.2.2.2.2.2.2.2)
  have hZ_ : SmZ (ud f (42 + r * 10 + k) m) := by
    intro j u0
    rw [ud_ne (by omega)]
    exact h.Z j u0
  exact ⟨hA_, hT_, hL_, hE_, hP_, hO_, hC_, hM_, hV_, hW_, hJ_, hH_, hS_, hZ_⟩
set_option maxHeartbeats 4000000 in
theorem sm_ap {r P K : Int} (hr : 0 ≤ r ∧ r < 3) (hP : g (10 + r) = P) (hP2 : 0 ≤ P ∧ P < 60) (hK : g (36 + 3 * P) = K) (hK2 : 0 ≤ K ∧ K < 10) (h : Sm0 f g) (hI : IM B g) : Sm0 (ud (ud f (30 + r) (P + 1)) (72 + r * 10 + K) (P + 1)) (ud g (10 + r) (P + 1)) := by
  have pr := h.P r hr
  have hA_ : SmA (ud (ud f (30 + r) (P + 1)) (72 + r * 10 + K) (P + 1)) (ud g (10 + r) (P + 1)) := by
    have q := h.A
    unfold SmA at q
    refine ⟨?_, ?_, ?_⟩
    · rw [ud_ne (by omega), ud_ne (by omega), ud_ne (by omega)] <;> omega
    · rw [ud_ne (by omega), ud_ne (by omega), ud_ne (by omega)] <;> omega
    · rw [ud_ne (by omega), ud_ne (by omega), ud_ne (by omega)] <;> omega
  have hT_ : SmT (ud (ud f (30 + r) (P + 1)) (72 + r * 10 + K) (P + 1)) (ud g (10 + r) (P + 1)) := by
    intro i u0
    rw [ud_ne (by omega), ud_ne (by omega), ud_ne (by omega)]
    exact h.T i u0
  have hL_ : SmL (ud (ud f (30 + r) (P + 1)) (72 + r * 10 + K) (P + 1)) (ud g (10 + r) (P + 1)) := by
    intro i u0
    rw [ud_ne (by omega), ud_ne (by omega), ud_ne (by omega)]
    exact h.L i u0
  have hE_ : SmE (ud (ud f (30 + r) (P + 1)) (72 + r * 10 + K) (P + 1)) (ud g (10 + r) (P + 1)) := by
    intro k_ u0
    rw [ud_ne (by omega), ud_ne (by omega), ud_ne (by omega)]
    exact h.E k_ u0
  have hP_ : SmP (ud (ud f (30 + r) (P + 1)) (72 + r * 10 + K) (P + 1)) (ud g (10 + r) (P + 1)) := by
    intro r_ u0
    rcases Decidable.em (r = r_) with e | e
    · subst e
      have q := h.P r u0
      rw [ud_ne (by omega), ud_eq, ud_eq] <;> (first | exact q | omega | (simp only [Int.reduceAdd, Int.add_zero] at *; omega))
    · skip
      rw [ud_ne (by omega), ud_ne (by omega), ud_ne (by omega)]
      exact h.P r_ u0
  have hO_ : SmO (ud (ud f (30 + r) (P + 1)) (72 + r * 10 + K) (P + 1)) (ud g (10 + r) (P + 1)) := by
    intro r_ u0
    rw [ud_ne (by omega), ud_ne (by omega), ud_ne (by omega)]
    exact h.O r_ u0
  have hC_ : SmC (ud (ud f (30 + r) (P + 1)) (72 + r * 10 + K) (P + 1)) (ud g (10 + r) (P + 1)) := by
    intro a_ u0
    rw [ud_ne (by omega), ud_ne (by omega), ud_ne (by omega)]
    exact h.C a_ u0
  have hM_ : SmM (ud (ud f (30 + r) (P + 1)) (72 + r * 10 + K) (P + 1)) (ud g (10 + r) (P + 1)) := by
    intro r_ k_ u0 u1
    rw [ud_ne (by omega), ud_ne (by omega), ud_ne (by omega)]
    exact h.M r_ k_ u0 u1
  have hJ_ : SmJ (ud (ud f (30 + r) (P + 1)) (72 + r * 10 + K) (P + 1)) (ud g (10 + r) (P + 1)) := by
    intro n i u0 u1
    have hj := jA_b u0
    rw [ud_ne (by omega), ud_ne (by omega), ud_ne (by omega)]
    exact h.J n i u0 u1
  have hL2 : ∀ k' n, n ≤ 60 → lastI (ud g (10 + r) (P + 1)) k' n = lastI g k' n := fun k' n hn => lastI_cong (fun x hx => ud_ne (by omega)) hn
  have hV_ : SmV (ud (ud f (30 + r) (P + 1)) (72 + r * 10 + K) (P + 1)) (ud g (10 + r) (P + 1)) := by
    intro r_ k_ u0 u1
    have q := h.V r_ k_ u0 u1
    have n6 := hI.n60 (j := 10 + r_) (by omega)
    rcases Decidable.em (r = r_) with e | e
    · subst e
      rw [ud_eq (j := 10 + r), hL2 _ _ (by omega), lastI_step (by omega)]
      rcases Decidable.em (K = k_) with e2 | e2
      · subst e2
        rw [ud_eq, if_pos hK]
      · rw [if_neg (by omega), ud_ne (by omega), ud_ne (by omega), q, hP]
    · rw [ud_ne (k := 10 + r_) (by omega), hL2 _ _ (by omega), ud_ne (by omega), ud_ne (by omega)]
      exact q
  have hW_ : SmW (ud (ud f (30 + r) (P + 1)) (72 + r * 10 + K) (P + 1)) (ud g (10 + r) (P + 1)) := by
    intro k_ u0
    have n6 := hI.n60 (j := 2) (by omega)
    rw [ud_ne (k := 2) (by omega), hL2 _ _ (by omega), ud_ne (by omega), ud_ne (by omega)]
    exact h.W k_ u0
  have hH_ : SmH (ud (ud f (30 + r) (P + 1)) (72 + r * 10 + K) (P + 1)) (ud g (10 + r) (P + 1)) := by
    intro c_ u0
    have q := h.H c_ u0
    have hc1 := cA_b (c := c_) u0
    have hc2 := hA_b (c := c_) u0
    have w1 : (ud (ud f (30 + r) (P + 1)) (72 + r * 10 + K) (P + 1)) (cA c_ + 7) = f (cA c_ + 7) := by rw [ud_ne (by omega), ud_ne (by omega)]
    have w2 : (ud (ud f (30 + r) (P + 1)) (72 + r * 10 + K) (P + 1)) (cA c_ + 1) = f (cA c_ + 1) := by rw [ud_ne (by omega), ud_ne (by omega)]
    have w3 : (ud (ud f (30 + r) (P + 1)) (72 + r * 10 + K) (P + 1)) (cA c_ + 3) = f (cA c_ + 3) := by rw [ud_ne (by omega), ud_ne (by omega)]
    have w4 : (ud g (10 + r) (P + 1)) (hA c_ + 1) = g (hA c_ + 1) := by rw [ud_ne (by omega)]
    have w5 : (ud g (10 + r) (P + 1)) (hA c_ + 3) = g (hA c_ + 3) := by rw [ud_ne (by omega)]
    have x0 : (ud (ud f (30 + r) (P + 1)) (72 + r * 10 + K) (P + 1)) (cA c_ + 0) = (ud g (10 + r) (P + 1)) (hA c_ + 0) := by
      rw [ud_ne (by omega), ud_ne (by omega), ud_ne (by omega)] <;> (first | omega | exact q.1)
    have x1 : (ud (ud f (30 + r) (P + 1)) (72 + r * 10 + K) (P + 1)) (cA c_ + 2) = (ud g (10 + r) (P + 1)) (hA c_ + 2) := by
      rw [ud_ne (by omega), ud_ne (by omega), ud_ne (by omega)] <;> (first | omega | exact q.2.1)
    have x2 : (ud (ud f (30 + r) (P + 1)) (72 + r * 10 + K) (P + 1)) (cA c_ + 4) = (ud g (10 + r) (P + 1)) (hA c_ + 4) := by
      rw [ud_ne (by omega), ud_ne (by omega), ud_ne (by omega)] <;> (first | omega | exact q.2.2.1)
    have x3 : (ud (ud f (30 + r) (P + 1)) (72 + r * 10 + K) (P + 1)) (cA c_ + 5) = (ud g (10 + r) (P + 1)) (hA c_ + 5) := by
      rw [ud_ne (by omega), ud_ne (by omega), ud_ne (by omega)] <;> (first | omega | exact q.2.2.2.1)
    have x4 : (ud (ud f (30 + r) (P + 1)) (72 + r * 10 + K) (P + 1)) (cA c_ + 6) = (ud g (10 + r) (P + 1)) (hA c_ + 6) := by
      rw [ud_ne (by omega), ud_ne (by omega), ud_ne (by omega)] <;> (first | omega | exact q.2.2.2.2.1)
    refine ⟨x0, x1, x2, x3, x4, ?_, ?_⟩
    · rw [w2]; omega
    · rw [w1, w2, w3, w4, w5]; omega
  have hS_ : SmS (ud (ud f (30 + r) (P + 1)) (72 + r * 10 + K) (P + 1)) (ud g (10 + r) (P + 1)) := by
    intro a_ k_ u0 u1
    have q := h.S a_ k_ u0 u1
    have b1 := sA_b u0 u1
    have b2 := eA_b u0 u1
    have b3 := oA_b u0 u1
    have b4 := lA_b u0 u1
    have b5 := dA_b u0 u1
    refine ⟨?_, ?_, ?_, ?_, ?_, ?_, ?_, ?_, ?_, ?_, ?_, ?_⟩
    · rw [ud_ne (by omega), ud_ne (by omega), ud_ne (by omega)] <;> (exact q.1)
    · rw [ud_ne (by omega), ud_ne (by omega), ud_ne (by omega)] <;> (exact q.2.1)
    · rw [ud_ne (by omega), ud_ne (by omega), ud_ne (by omega)] <;> (exact q.2.2.1)
    · rw [ud_ne (by omega), ud_ne (by omega), ud_ne (by omega)] <;> (exact q.2.2.2.1)
    · rw [ud_ne (by omega), ud_ne (by omega), ud_ne (by omega)] <;> (exact q.2.2.2.2.1)
    · rw [ud_ne (by omega), ud_ne (by omega), ud_ne (by omega), ud_ne (by omega)] <;> (exact q.2.2.2.2.2.1)
    · rw [ud_ne (by omega), ud_ne (by omega), ud_ne (by omega)] <;> (exact q.2.2.2.2.2.2.1)
    · rw [ud_ne (by omega), ud_ne (by omega), ud_ne (by omega), ud_ne (by omega)] <;> (exact q.2.2.2.2.2.2.2.1)
    · rw [ud_ne (by omega), ud_ne (by omega), ud_ne (by omega)] <;> (exact q.2.2.2.2.2.2.2.2.1)
    · rw [ud_ne (by omega), ud_ne (by omega), ud_ne (by omega)] <;> (exact q.2.2.2.2.2.2.2.2.2.1)
    · rw [ud_ne (by omega), ud_ne (by omega), ud_ne (by omega), ud_ne (by omega)] <;> (exact q.2.2.2.2.2.2.2.2.2.2.1)
    · rw [ud_ne (by omega), ud_ne (by omega), ud_ne (by omega), ud_ne (by omega)] <;> (exact q.2.2.2.2.2.2.2.2.2.2.2)
  have hZ_ : SmZ (ud (ud f (30 + r) (P + 1)) (72 + r * 10 + K) (P + 1)) := by
    intro j u0
    rw [ud_ne (by omega), ud_ne (by omega)]
    exact h.Z j u0
  exact ⟨hA_, hT_, hL_, hE_, hP_, hO_, hC_, hM_, hV_, hW_, hJ_, hH_, hS_, hZ_⟩
theorem strike_8 {a k : Int} (ha : 0 ≤ a ∧ a < 6) (hk : 0 ≤ k ∧ k < 10) : wStrike f a k 8 = f 8 ∧ wStrike f a k 14 = f 14 := ⟨strike_at ha hk (by omega) (by omega) (by omega), strike_at ha hk (by omega) (by omega) (by omega)⟩
theorem sm_write {c k v : Int} (h : Sm f g) (hI : IM B g) (hB : 1000 ≤ B) (hP : PM g) (hc : 0 ≤ c ∧ c < 6) (hk : 0 ≤ k ∧ k < 10) (hv : 0 ≤ v ∧ v ≤ 999) : (wWrite f c k v).1 = (spWrite g c k v).1 ∧ Sm (wWrite f c k v).2 (spWrite g c k v).2 ∧ IM (B + 400) (spWrite g c k v).2 ∧ PM (spWrite g c k v).2 := by
  obtain ⟨h0, h8, h14⟩ := h
  have n2 := hI.n60 (j := 2) (by omega)
  have A0 := h0.A
  unfold SmA at A0
  have hh := h0.H c hc
  have hcl := hI.cl hc
  have hb1 := hA_b hc
  have hb2 := cA_b hc
  unfold wWrite spWrite
  rcases Decidable.em (g 2 = 60) with c0 | c0
  · rw [if_neg (show ¬ f 1 < 60 by omega), if_pos c0]
    exact ⟨rfl, ⟨h0, h8, h14⟩, hI.up (by omega), hP⟩
  rw [if_pos (show f 1 < 60 by omega), if_neg c0, A0.2.1, hh.1]
  have ha := hcl.1
  have b2 := hI.b 2
  have h1 := sm_wr (c := c) (v := v) rfl (by omega) hP hk h0 hI
  have hU : IM (B + 100) g := hI.up (by omega)
  have hI1 : IM (B + 100) (wr1 g c k v) := by
    unfold wr1
    refine (((hU.wr ?_).wr ?_).wr ?_).wr ?_ <;> (unfold CellM; omega)
  have pj := jA_b (n := g 2 + 1) (by omega)
  have e2 : wr1 g c k v 2 = g 2 + 1 := ud_eq
  have ej : ∀ j, j < 36 → j ≠ 2 → wr1 g c k v j = g j := fun j q1 q2 => by unfold wr1; rw [ud_ne q2, ud_ne (by omega), ud_ne (by omega), ud_ne (by omega)]
  have eh : ∀ j, 216 ≤ j → wr1 g c k v j = g j := fun j q1 => by unfold wr1; rw [ud_ne (by omega), ud_ne (by omega), ud_ne (by omega), ud_ne (by omega)]
  unfold wr2
  have P1 : ∀ G, (∀ j, j < 36 → G j = wr1 g c k v j) → PM (spDel G (g (hA c + 0)) k) := fun G hG r hr => by
    have hp := hP r hr
    rw [spDel_at ha hk (by omega) (by omega) (by omega), spDel_at ha hk (by omega) (by omega) (by omega), hG _ (by omega), hG _ (by omega), e2, ej _ (by omega) (by omega)]
    omega
  rcases Decidable.em (g (hA c + 0) / 2 = 0) with c1 | c1
  · rw [if_pos c1, if_pos c1]
    have h2 := sm_del (k := k) h1 hI1 ha hk
    refine ⟨?_, ⟨h2, ?_, ?_⟩, (im_del hI1 ha hk).up (by omega), P1 _ (fun _ _ => rfl)⟩
    · show g 2 + 1 = _
      rw [spDel_at ha hk (by omega) (by omega) (by omega), e2]
    · show wStrike _ _ _ 8 = spDel _ _ _ 8
      rw [(strike_8 ha hk).1, spDel_at ha hk (by omega) (by omega) (by omega), ej 8 (by omega) (by omega), ud_ne (by omega), ud_ne (by omega), ud_ne (by omega), ud_ne (by omega), ud_ne (by omega)]
      exact h8
    · show wStrike _ _ _ 14 = spDel _ _ _ 20
      rw [(strike_8 ha hk).2, spDel_at ha hk (by omega) (by omega) (by omega), ej 20 (by omega) (by omega), ud_ne (by omega), ud_ne (by omega), ud_ne (by omega), ud_ne (by omega), ud_ne (by omega)]
      exact h14
  · rw [if_neg c1, if_neg c1]
    have h1m := sm_mark (r := g (hA c + 0) / 2) (k := k) (m := g 2 + 1) (by omega) hk h1 hI1
    have hI2 : IM (B + 100) (ud (wr1 g c k v) (942 + 10 * (g (hA c + 0) / 2) + k) (g 2 + 1)) := hI1.wr (by unfold CellM; omega)
    have h2 := sm_del (k := k) h1m hI2 ha hk
    refine ⟨?_, ⟨h2, ?_, ?_⟩, (im_del hI2 ha hk).up (by omega), P1 _ (fun j q => ud_ne (by omega))⟩
    · show g 2 + 1 = _
      rw [spDel_at ha hk (by omega) (by omega) (by omega), ud_ne (by omega), e2]
    · show wStrike _ _ _ 8 = spDel _ _ _ 8
      rw [(strike_8 ha hk).1, spDel_at ha hk (by omega) (by omega) (by omega), ud_ne (f := wr1 g c k v) (by omega), ej 8 (by omega) (by omega), ud_ne (by omega), ud_ne (by omega), ud_ne (by omega), ud_ne (by omega), ud_ne (by omega), ud_ne (by omega)]
      exact h8
    · show wStrike _ _ _ 14 = spDel _ _ _ 20
      rw [(strike_8 ha hk).2, spDel_at ha hk (by omega) (by omega) (by omega), ud_ne (f := wr1 g c k v) (by omega), ej 20 (by omega) (by omega), ud_ne (by omega), ud_ne (by omega), ud_ne (by omega), ud_ne (by omega), ud_ne (by omega), ud_ne (by omega)]
      exact h14
theorem sm_apply {r : Int} (h : Sm f g) (hI : IM B g) (hB : 1000 ≤ B) (hP : PM g) (hr : 0 ≤ r ∧ r < 3) : (wApply f r).1 = (spApply g r).1 ∧ Sm (wApply f r).2 (spApply g r).2 ∧ IM (B + 500) (spApply g r).2 ∧ PM (spApply g r).2 := by
  obtain ⟨h0, h8, h14⟩ := h
  have n2 := hI.n60 (j := 2) (by omega)
  have nr := hI.n60 (j := 10 + r) (by omega)
  have A0 := h0.A
  unfold SmA at A0
  have p0 := h0.P r hr
  have pl := hP r hr
  unfold wApply spApply
  rcases Decidable.em (g (10 + r) = g 2) with c0 | c0
  · rw [if_neg (show ¬ f (30 + r) < f 1 by omega), if_pos c0]
    exact ⟨rfl, ⟨h0, h8, h14⟩, hI.up (by omega), hP⟩
  rw [if_pos (show f (30 + r) < f 1 by omega), if_neg c0, p0]
  have eK : f (jA (g (10 + r) + 1) + 0) = apK g r := by
    have q := h0.J (g (10 + r) + 1) 0 (by omega) (by omega)
    rw [Int.add_zero (36 + 3 * (g (10 + r) + 1 - 1))] at q
    exact q
  rw [eK]
  have hk : 0 ≤ apK g r ∧ apK g r < 10 := by
    have q := hI.jr (n := g (10 + r) + 1) (by omega)
    unfold apK
    omega
  have eK2 : g (36 + 3 * g (10 + r)) = apK g r := by unfold apK; rw [show g (10 + r) + 1 - 1 = g (10 + r) by omega]
  have h1 := sm_ap hr rfl (by omega) eK2 hk h0 hI
  have br := hI.b (10 + r)
  have hI1 : IM (B + 100) (ap1 g r) := (hI.up (by omega)).wr (by unfold CellM; omega)
  have h2 := sm_del (a := 2 * r) (k := apK g r) h1 hI1 (by omega) hk
  have hI2 : IM (B + 300) (spDel (ap1 g r) (2 * r) (apK g r)) := (im_del hI1 (by omega) hk).up (by omega)
  have h3 := sm_del (a := 2 * r + 1) (k := apK g r) h2 hI2 (by omega) hk
  have hI3 : IM (B + 500) (ap3 g r) := (im_del hI2 (by omega) hk).up (by omega)
  have h3' : Sm0 _ (ap3 g r) := h3
  have gat : ∀ j, j ≠ 24 → j ≠ 25 → (j < 222 ∨ 942 ≤ j) → ap3 g r j = ap1 g r j := fun j q1 q2 q3 => by
    unfold ap3
    rw [spDel_at (by omega) hk q1 q2 q3, spDel_at (by omega) hk q1 q2 q3]
  have P3 : PM (ap3 g r) := fun r' hr' => by
    have hp := hP r' hr'
    rw [gat _ (by omega) (by omega) (by omega), gat _ (by omega) (by omega) (by omega)]
    unfold ap1
    rw [ud_ne (k := 2) (by omega)]
    rcases Decidable.em (r' = r) with e | e
    · subst e; rw [ud_eq]; omega
    · rw [ud_ne (by omega)]; exact hp
  have g8 : ap3 g r 8 = g 8 := by rw [gat 8 (by omega) (by omega) (by omega)]; exact ud_ne (by omega)
  have g20 : ap3 g r 20 = g 20 := by rw [gat 20 (by omega) (by omega) (by omega)]; exact ud_ne (by omega)
  have m3 := h3'.M r (apK g r) hr hk
  have n9 := hI3.n60 (j := 942 + 10 * r + apK g r) (by omega)
  generalize hF : wStrike (wStrike (ud (ud f (30 + r) (g (10 + r) + 1)) (72 + r * 10 + apK g r) (g (10 + r) + 1)) (2 * r) (apK g r)) (2 * r + 1) (apK g r) = F3 at *
  have f8 : F3 8 = f 8 := by
    rw [← hF, (strike_8 (by omega) hk).1, (strike_8 (by omega) hk).1, ud_ne (by omega), ud_ne (by omega)]
  have f14 : F3 14 = f 14 := by
    rw [← hF, (strike_8 (by omega) hk).2, (strike_8 (by omega) hk).2, ud_ne (by omega), ud_ne (by omega)]
  rcases Decidable.em (ap3 g r (942 + 10 * r + apK g r) ≤ g (10 + r) + 1) with c1 | c1
  · rw [if_neg (show ¬ g (10 + r) + 1 < F3 (42 + r * 10 + apK g r) by omega), if_pos c1]
    refine ⟨rfl, ⟨sm_mark hr hk h3' hI3, ?_, ?_⟩, hI3.wr (by unfold CellM; omega), fun r' hr' => ?_⟩
    · show ud _ _ _ 8 = ud _ _ _ 8
      rw [ud_ne (by omega), ud_ne (by omega), f8, g8]; exact h8
    · show ud _ _ _ 14 = ud _ _ _ 20
      rw [ud_ne (by omega), ud_ne (by omega), f14, g20]; exact h14
    · show ud _ _ _ _ ≤ ud _ _ _ _
      rw [ud_ne (by omega), ud_ne (by omega)]
      exact P3 r' hr'
  · rw [if_pos (show g (10 + r) + 1 < F3 (42 + r * 10 + apK g r) by omega), if_neg c1]
    exact ⟨rfl, ⟨h3', by show F3 8 = ap3 g r 8; rw [f8, g8]; exact h8, by show F3 14 = ap3 g r 20; rw [f14, g20]; exact h14⟩, hI3, P3⟩
end SW
