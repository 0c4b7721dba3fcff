/-! keys tried on a thought row, pure part -/
section KB
variable {f g : Int → Int} {B : Int}
set_option maxHeartbeats 4000000 in
theorem sm_use {a k : Int} (ha : 0 ≤ a ∧ a < 6) (hk : 0 ≤ k ∧ k < 10) (h : Sm0 f g) (hI : IM B g) : Sm0 (ud (ud f (sA a k + 3) (f 0)) (sA a k + 4) (f (sA a k + 4) + 1)) (ud (ud g (eA a k + 4) (g 0)) (eA a k + 5) (g (eA a k + 5) + 1)) := by
  have p1 := sA_b ha hk
  have p2 := eA_b ha hk
  have p3 := oA_b ha hk
  have p4 := lA_b ha hk
  have p5 := dA_b ha hk
  have p6 := h.S a k ha hk
  have p7 := h.A
  unfold SmA at p7
  have hA_ : SmA (ud (ud f (sA a k + 3) (f 0)) (sA a k + 4) (f (sA a k + 4) + 1)) (ud (ud g (eA a k + 4) (g 0)) (eA a k + 5) (g (eA a k + 5) + 1)) := by
    have q := h.A
    unfold SmA at q
    refine ⟨?_, ?_, ?_⟩
    · rw [ud_ne (by omega), ud_ne (by omega), ud_ne (by omega), ud_ne (by omega)] <;> omega
    · rw [ud_ne (by omega), ud_ne (by omega), ud_ne (by omega), ud_ne (by omega)] <;> omega
    · rw [ud_ne (by omega), ud_ne (by omega), ud_ne (by omega), ud_ne (by omega)] <;> omega
  have hT_ : SmT (ud (ud f (sA a k + 3) (f 0)) (sA a k + 4) (f (sA a k + 4) + 1)) (ud (ud g (eA a k + 4) (g 0)) (eA a k + 5) (g (eA a k + 5) + 1)) := by
    intro i u0
    rw [ud_ne (by omega), ud_ne (by omega), ud_ne (by omega), ud_ne (by omega)]
    exact h.T i u0
  have hL_ : SmL (ud (ud f (sA a k + 3) (f 0)) (sA a k + 4) (f (sA a k + 4) + 1)) (ud (ud g (eA a k + 4) (g 0)) (eA a k + 5) (g (eA a k + 5) + 1)) := by
    intro i u0
    rw [ud_ne (by omega), ud_ne (by omega), ud_ne (by omega), ud_ne (by omega)]
    exact h.L i u0
  have hE_ : SmE (ud (ud f (sA a k + 3) (f 0)) (sA a k + 4) (f (sA a k + 4) + 1)) (ud (ud g (eA a k + 4) (g 0)) (eA a k + 5) (g (eA a k + 5) + 1)) := by
    intro k_ u0
    rw [ud_ne (by omega), ud_ne (by omega), ud_ne (by omega), ud_ne (by omega)]
    exact h.E k_ u0
  have hP_ : SmP (ud (ud f (sA a k + 3) (f 0)) (sA a k + 4) (f (sA a k + 4) + 1)) (ud (ud g (eA a k + 4) (g 0)) (eA a k + 5) (g (eA a k + 5) + 1)) := by
    intro r_ u0
    rw [ud_ne (by omega), ud_ne (by omega), ud_ne (by omega), ud_ne (by omega)]
    exact h.P r_ u0
  have hO_ : SmO (ud (ud f (sA a k + 3) (f 0)) (sA a k + 4) (f (sA a k + 4) + 1)) (ud (ud g (eA a k + 4) (g 0)) (eA a k + 5) (g (eA a k + 5) + 1)) := by
    intro r_ u0
    rw [ud_ne (by omega), ud_ne (by omega), ud_ne (by omega), ud_ne (by omega)]
    exact h.O r_ u0
  have hC_ : SmC (ud (ud f (sA a k + 3) (f 0)) (sA a k + 4) (f (sA a k + 4) + 1)) (ud (ud g (eA a k + 4) (g 0)) (eA a k + 5) (g (eA a k + 5) + 1)) := by
    intro a_ u0
    rw [ud_ne (by omega), ud_ne (by omega), ud_ne (by omega), ud_ne (by omega)]
    exact h.C a_ u0
  have hM_ : SmM (ud (ud f (sA a k + 3) (f 0)) (sA a k + 4) (f (sA a k + 4) + 1)) (ud (ud g (eA a k + 4) (g 0)) (eA a k + 5) (g (eA a k + 5) + 1)) := by
    intro r_ k_ u0 u1
    rw [ud_ne (by omega), ud_ne (by omega), ud_ne (by omega), ud_ne (by omega)]
    exact h.M r_ k_ u0 u1
  have hJ_ : SmJ (ud (ud f (sA a k + 3) (f 0)) (sA a k + 4) (f (sA a k + 4) + 1)) (ud (ud g (eA a k + 4) (g 0)) (eA a k + 5) (g (eA a k + 5) + 1)) := by
    intro n i u0 u1
    have hj := jA_b u0
    rw [ud_ne (by omega), ud_ne (by omega), ud_ne (by omega), ud_ne (by omega)]
    exact h.J n i u0 u1
  have hK : ∀ n, 1 ≤ n ∧ n ≤ 60 → (ud (ud g (eA a k + 4) (g 0)) (eA a k + 5) (g (eA a k + 5) + 1)) (36 + 3 * (n - 1)) = g (36 + 3 * (n - 1)) := by
    intro n u0
    rw [ud_ne (by omega), ud_ne (by omega)]
  have hV_ : SmV (ud (ud f (sA a k + 3) (f 0)) (sA a k + 4) (f (sA a k + 4) + 1)) (ud (ud g (eA a k + 4) (g 0)) (eA a k + 5) (g (eA a k + 5) + 1)) := by
    intro r_ k_ u0 u1
    rw [lastI_cong hK (by rw [ud_ne (by omega), ud_ne (by omega)]; exact (hI.n60 (by omega)).2)]
    rw [ud_ne (by omega), ud_ne (by omega), ud_ne (by omega), ud_ne (by omega)]
    exact h.V r_ k_ u0 u1
  have hW_ : SmW (ud (ud f (sA a k + 3) (f 0)) (sA a k + 4) (f (sA a k + 4) + 1)) (ud (ud g (eA a k + 4) (g 0)) (eA a k + 5) (g (eA a k + 5) + 1)) := by
    intro k_ u0
    rw [lastI_cong hK (by rw [ud_ne (by omega), ud_ne (by omega)]; exact (hI.n60 (by omega)).2)]
    rw [ud_ne (by omega), ud_ne (by omega), ud_ne (by omega), ud_ne (by omega)]
    exact h.W k_ u0
  have hH_ : SmH (ud (ud f (sA a k + 3) (f 0)) (sA a k + 4) (f (sA a k + 4) + 1)) (ud (ud g (eA a k + 4) (g 0)) (eA a k + 5) (g (eA a k + 5) + 1)) := by
    intro c_ u0
    have q := h.H c_ u0
    have hc1 := cA_b (c := c_) u0
    have hc2 := hA_b (c := c_) u0
    have w1 : (ud (ud f (sA a k + 3) (f 0)) (sA a k + 4) (f (sA a k + 4) + 1)) (cA c_ + 7) = f (cA c_ + 7) := by rw [ud_ne (by omega), ud_ne (by omega)]
    have w2 : (ud (ud f (sA a k + 3) (f 0)) (sA a k + 4) (f (sA a k + 4) + 1)) (cA c_ + 1) = f (cA c_ + 1) := by rw [ud_ne (by omega), ud_ne (by omega)]
    have w3 : (ud (ud f (sA a k + 3) (f 0)) (sA a k + 4) (f (sA a k + 4) + 1)) (cA c_ + 3) = f (cA c_ + 3) := by rw [ud_ne (by omega), ud_ne (by omega)]
    have w4 : (ud (ud g (eA a k + 4) (g 0)) (eA a k + 5) (g (eA a k + 5) + 1)) (hA c_ + 1) = g (hA c_ + 1) := by rw [ud_ne (by omega), ud_ne (by omega)]
    have w5 : (ud (ud g (eA a k + 4) (g 0)) (eA a k + 5) (g (eA a k + 5) + 1)) (hA c_ + 3) = g (hA c_ + 3) := by rw [ud_ne (by omega), ud_ne (by omega)]
    have x0 : (ud (ud f (sA a k + 3) (f 0)) (sA a k + 4) (f (sA a k + 4) + 1)) (cA c_ + 0) = (ud (ud g (eA a k + 4) (g 0)) (eA a k + 5) (g (eA a k + 5) + 1)) (hA c_ + 0) := by
      rw [ud_ne (by omega), ud_ne (by omega), ud_ne (by omega), ud_ne (by omega)] <;> (first | omega | exact q.1)
    have x1 : (ud (ud f (sA a k + 3) (f 0)) (sA a k + 4) (f (sA a k + 4) + 1)) (cA c_ + 2) = (ud (ud g (eA a k + 4) (g 0)) (eA a k + 5) (g (eA a k + 5) + 1)) (hA c_ + 2) := by
      rw [ud_ne (by omega), ud_ne (by omega), ud_ne (by omega), ud_ne (by omega)] <;> (first | omega | exact q.2.1)
    have x2 : (ud (ud f (sA a k + 3) (f 0)) (sA a k + 4) (f (sA a k + 4) + 1)) (cA c_ + 4) = (ud (ud g (eA a k + 4) (g 0)) (eA a k + 5) (g (eA a k + 5) + 1)) (hA c_ + 4) := by
      rw [ud_ne (by omega), ud_ne (by omega), ud_ne (by omega), ud_ne (by omega)] <;> (first | omega | exact q.2.2.1)
    have x3 : (ud (ud f (sA a k + 3) (f 0)) (sA a k + 4) (f (sA a k + 4) + 1)) (cA c_ + 5) = (ud (ud g (eA a k + 4) (g 0)) (eA a k + 5) (g (eA a k + 5) + 1)) (hA c_ + 5) := by
      rw [ud_ne (by omega), ud_ne (by omega), ud_ne (by omega), ud_ne (by omega)] <;> (first | omega | exact q.2.2.2.1)
    have x4 : (ud (ud f (sA a k + 3) (f 0)) (sA a k + 4) (f (sA a k + 4) + 1)) (cA c_ + 6) = (ud (ud g (eA a k + 4) (g 0)) (eA a k + 5) (g (eA a k + 5) + 1)) (hA c_ + 6) := by
      rw [ud_ne (by omega), ud_ne (by omega), ud_ne (by omega), ud_ne (by omega)] <;> (first | omega | exact q.2.2.2.2.1)
    refine ⟨x0, x1, x2, x3, x4, ?_, ?_⟩
    · rw [w2]; omega
    · rw [w1, w2, w3, w4, w5]; omega
  have hS_ : SmS (ud (ud f (sA a k + 3) (f 0)) (sA a k + 4) (f (sA a k + 4) + 1)) (ud (ud g (eA a k + 4) (g 0)) (eA a k + 5) (g (eA a k + 5) + 1)) := by
    intro a_ k_ u0 u1
    rcases Decidable.em (a = a_ ∧ k = k_) with e | e
    · obtain ⟨e1, e2⟩ := e
      subst e1
      subst e2
      have q := h.S a k u0 u1
      have b1 := sA_b u0 u1
      have b2 := eA_b u0 u1
      have b3 := oA_b u0 u1
      have b4 := lA_b u0 u1
      have b5 := dA_b u0 u1
      refine ⟨?_, ?_, ?_, ?_, ?_, ?_, ?_, ?_, ?_, ?_, ?_, ?_⟩
      · rw [ud_ne (by omega), ud_ne (by omega), ud_ne (by omega), ud_ne (by omega)] <;> (first | exact q.1 | omega)
      · rw [ud_ne (by omega), ud_ne (by omega), ud_ne (by omega), ud_ne (by omega)] <;> (first | exact q.2.1 | omega)
      · rw [ud_ne (by omega), ud_ne (by omega), ud_ne (by omega), ud_ne (by omega)] <;> (first | exact q.2.2.1 | omega)
      · rw [ud_ne (by omega), ud_eq, ud_ne (by omega), ud_eq] <;> (first | exact q.2.2.2.1 | omega)
      · rw [ud_eq, ud_eq] <;> (first | exact q.2.2.2.2.1 | omega)
      · rw [ud_ne (by omega), ud_ne (by omega), ud_ne (by omega), ud_ne (by omega), ud_ne (by omega), ud_ne (by omega)] <;> (first | exact q.2.2.2.2.2.1 | (unfold EA at *; omega))
      · rw [ud_ne (by omega), ud_ne (by omega), ud_ne (by omega), ud_ne (by omega)] <;> (first | exact q.2.2.2.2.2.2.1 | omega)
      · rw [ud_ne (by omega), ud_ne (by omega), ud_ne (by omega), ud_ne (by omega), ud_ne (by omega), ud_ne (by omega)] <;> (first | exact q.2.2.2.2.2.2.2.1 | (unfold EA at *; omega))
      · rw [ud_ne (by omega), ud_ne (by omega), ud_ne (by omega), ud_ne (by omega)] <;> (first | exact q.2.2.2.2.2.2.2.2.1 | omega)
      · rw [ud_ne (by omega), ud_ne (by omega), ud_ne (by omega), ud_ne (by omega)] <;> (first | exact q.2.2.2.2.2.2.2.2.2.1 | omega)
      · rw [ud_ne (by omega), ud_ne (by omega), ud_ne (by omega), ud_ne (by omega), ud_ne (by omega), ud_ne (by omega)] <;> (first | exact q.2.2.2.2.2.2.2.2.2.2.1 | (unfold EA at *; omega))
      · rw [ud_ne (by omega), ud_ne (by omega), ud_ne (by omega), ud_ne (by omega), ud_ne (by omega), ud_ne (by omega)] <;> (first | exact q.2.2.2.2.2.2.2.2.2.2.2 | (unfold EA at *; omega))
    · have d1 : sA a_ k_ + 12 ≤ sA a k ∨ sA a k + 12 ≤ sA a_ k_ := by unfold sA; omega
      have d2 : eA a_ k_ + 6 ≤ eA a k ∨ eA a k + 6 ≤ eA a_ k_ := by unfold eA; omega
      have d3 : oA a_ k_ + 2 ≤ oA a k ∨ oA a k + 2 ≤ oA a_ k_ := by unfold oA; omega
      have d4 : lA a_ k_ + 3 ≤ lA a k ∨ lA a k + 3 ≤ lA a_ k_ := by unfold lA; omega
      have d5 : dA a_ k_ + 1 ≤ dA a k ∨ dA a k + 1 ≤ dA a_ k_ := by unfold dA; omega
      have q := h.S a_ k_ u0 u1
      have b1 := sA_b u0 u1
      have b2 := eA_b u0 u1
      have b3 := oA_b u0 u1
      have b4 := lA_b u0 u1
      have b5 := dA_b u0 u1
      refine ⟨?_, ?_, ?_, ?_, ?_, ?_, ?_, ?_, ?_, ?_, ?_, ?_⟩
      · rw [ud_ne (by omega), ud_ne (by omega), ud_ne (by omega), ud_ne (by omega)] <;> (exact q.1)
      · rw [ud_ne (by omega), ud_ne (by omega), ud_ne (by omega), ud_ne (by omega)] <;> (exact q.2.1)
      · rw [ud_ne (by omega), ud_ne (by omega), ud_ne (by omega), ud_ne (by omega)] <;> (exact q.2.2.1)
      · rw [ud_ne (by omega), ud_ne (by omega), ud_ne (by omega), ud_ne (by omega)] <;> (exact q.2.2.2.1)
      · rw [ud_ne (by omega), ud_ne (by omega), ud_ne (by omega), ud_ne (by omega)] <;> (exact q.2.2.2.2.1)
      · rw [ud_ne (by omega), ud_ne (by omega), ud_ne (by omega), ud_ne (by omega), ud_ne (by omega), ud_ne (by omega)] <;> (exact q.2.2.2.2.2.1)
      · rw [ud_ne (by omega), ud_ne (by omega), ud_ne (by omega), ud_ne (by omega)] <;> (exact q.2.2.2.2.2.2.1)
      · rw [ud_ne (by omega), ud_ne (by omega), ud_ne (by omega), ud_ne (by omega), ud_ne (by omega), ud_ne (by omega)] <;> (exact q.2.2.2.2.2.2.2.1)
      · rw [ud_ne (by omega), ud_ne (by omega), ud_ne (by omega), ud_ne (by omega)] <;> (exact q.2.2.2.2.2.2.2.2.1)
      · rw [ud_ne (by omega), ud_ne (by omega), ud_ne (by omega), ud_ne (by omega)] <;> (exact q.2.2.2.2.2.2.2.2.2.1)
      · rw [ud_ne (by omega), ud_ne (by omega), ud_ne (by omega), ud_ne (by omega), ud_ne (by omega), ud_ne (by omega)] <;> (exact q.2.2.2.2.2.2.2.2.2.2.1)
      · rw [ud_ne (by omega), ud_ne (by omega), ud_ne (by omega), ud_ne (by omega), ud_ne (by omega), ud_ne (by omega)] <;> (exact q.2.2.2.2.2.2.2.2.2.2.2)
  have hZ_ : SmZ (ud (ud f (sA a k + 3) (f 0)) (sA a k + 4) (f (sA a k + 4) + 1)) := by
    intro j u0
    rw [ud_ne (by omega), ud_ne (by omega)]
    exact h.Z j u0
  exact ⟨hA_, hT_, hL_, hE_, hP_, hO_, hC_, hM_, hV_, hW_, hJ_, hH_, hS_, hZ_⟩
theorem ud_id {f : Int → Int} {j : Int} : ud f j (f j) = f := by
  funext i
  unfold ud
  split
  · rename_i e; rw [e]
  · rfl
/-- alike but for POLICY and FILLS done -/
def HW (B : Int) (f g : Int → Int) : Prop := Sm0 f g ∧ IM B g ∧ (0 ≤ f 8 ∧ f 8 ≤ 3) ∧ 0 ≤ f 14 ∧ f 14 ≤ B
theorem HW.iw (h : HW B f g) (hB : 1000 ≤ B) : IW B f := by
  have e := sm_pol (v := f 8) (w := f 8) h.1 h.2.1
  rw [ud_id] at e
  have b0 := h.2.2
  have I1 : IM B (ud g 8 (f 8)) := h.2.1.wr (by unfold CellM; omega)
  exact Sm.iw ⟨sm_led4 (x := f 14) e I1, by rw [ud_ne (by omega), ud_eq], by rw [ud_eq]⟩ (I1.wr (cm_ct (by omega) (by omega))) hB
theorem HW.now (h : HW B f g) : HW (B + 1) (ud f 0 (f 0 + 1)) (ud g 0 (g 0 + 1)) := by
  have A0 := h.1.A
  have n0 := h.2.1.n0 (j := 0) (by omega)
  have b0 := h.2.1.b 0
  have e := sm_now (e := g 0 + 1) (by omega) h.1 h.2.1
  have b1 := h.2.2
  unfold SmA at A0
  rw [A0.1]
  exact ⟨e, (h.2.1.up (by omega)).wr (cm_ct (by omega) (by omega)), by rw [ud_ne (by omega)]; omega, by rw [ud_ne (by omega)]; omega⟩
/-- a key tried, the reference -/
def rTry (g : Int → Int) (a k : Int) : Int × (Int → Int) := if g 0 < g (eA a k) then (1, ud (ud g (eA a k + 4) (g 0)) (eA a k + 5) (g (eA a k + 5) + 1)) else (0, spFills g a k (valO g (svO g (a / 2) k)) (svO g (a / 2) k))
theorem rTry_01 (g : Int → Int) (a k : Int) : (rTry g a k).1 = 0 ∨ (rTry g a k).1 = 1 := by unfold rTry; split; exact Or.inr rfl; exact Or.inl rfl
theorem wTry_01 (g : Int → Int) (a k t : Int) : (wTry g a k t).1 = 0 ∨ (wTry g a k t).1 = 1 := by unfold wTry; split; exact Or.inr rfl; exact Or.inl rfl
theorem HW.tr {a k t : Int} (h : HW B f g) (hB : 1000 ≤ B) (ha : 0 ≤ a ∧ a < 6) (hk : 0 ≤ k ∧ k < 10) (ht : t = g 8) : (wTry f a k t).1 = (rTry g a k).1 ∧ HW (B + 300) (wTry f a k t).2 (rTry g a k).2 ∧ (rTry g a k).2 8 = g 8 := by
  obtain ⟨h0, hI, h8, h14⟩ := h
  have S := h0.S a k ha hk
  have A0 := h0.A
  have p1 := sA_b ha hk
  have p2 := eA_b ha hk
  have n0 := hI.n0 (j := 0) (by omega)
  have b0 := hI.b 0
  have b5 := hI.b (eA a k + 5)
  have n5 := hI.n0 (j := eA a k + 5) (by omega)
  unfold SmA at A0
  unfold EA at S
  unfold wTry rTry
  rcases Decidable.em (g 0 < g (eA a k)) with c | c
  · rw [if_pos (show f 0 < f (sA a k + 5) by omega), if_pos c]
    refine ⟨rfl, ⟨sm_use ha hk h0 hI, ?_, ?_, ?_⟩, ?_⟩
    · exact ((hI.up (show B ≤ B + 300 by omega)).wr (cm_en ha hk (by omega) (by omega) (by omega) (by omega))).wr (cm_en ha hk (by omega) (by omega) (by omega) (by omega))
    · dsimp only; rw [ud_ne (by omega), ud_ne (by omega)]; exact h8
    · dsimp only; rw [ud_ne (by omega), ud_ne (by omega)]; omega
    · dsimp only; rw [ud_ne (by omega), ud_ne (by omega)]
  · rw [if_neg (show ¬ f 0 < f (sA a k + 5) by omega), if_neg c]
    have hv := svO_b2 hI (r := a / 2) (k := k) (by omega)
    have hvl := valO_b hI hv
    rw [wSv_eq h0 (by omega) hk, wVal_eq h0 hv]
    have w := sm_ins (v := valO g (svO g (a / 2) k)) (n := svO g (a / 2) k) h0 hI hB ha hk ht hvl hv
    refine ⟨rfl, ⟨w.1, w.2.1.up (by omega), ?_, ?_⟩, w.2.2.2.2.1⟩
    · dsimp only; rw [w.2.2.1]; exact h8
    · dsimp only; rw [w.2.2.2.1]; omega
/-- keys tried one behind another, the class -/
def tcS (r : Int → Int) (a t : Int) : Nat → Int → Int → (Int → Int) → Int × (Int → Int)
  | 0, _, n, f => (n, f)
  | m + 1, i, n, f => tcS r a t m (i + 1) (n + (wTry (ud f 0 (f 0 + 1)) a (r i) t).1) (wTry (ud f 0 (f 0 + 1)) a (r i) t).2
/-- the reference: as long as what lies there is a key -/
def trS (r : Int → Int) (a : Int) : Nat → Int → Int → (Int → Int) → Int × (Int → Int)
  | 0, _, n, g => (n, g)
  | m + 1, i, n, g => if 0 ≤ r i then if r i < 10 then trS r a m (i + 1) (n + (rTry (ud g 0 (g 0 + 1)) a (r i)).1) (rTry (ud g 0 (g 0 + 1)) a (r i)).2 else (n, g) else (n, g)
theorem kaL_b (r : Int → Int) : ∀ (m : Nat) (k : Int), k ≤ kaL r m k ∧ kaL r m k ≤ k + m := by
  intro m
  induction m with
  | zero => intro k; exact ⟨Int.le_refl _, by show k ≤ k + ((0 : Nat) : Int); omega⟩
  | succ m ih =>
    intro k
    have w := ih (k + 1)
    unfold kaL
    (repeat' split) <;> omega
theorem kaL_keys (r : Int → Int) : ∀ (m : Nat) (k j : Int), k ≤ j → j < kaL r m k → 0 ≤ r j ∧ r j < 10 := by
  intro m
  induction m with
  | zero => intro k j h1 h2; unfold kaL at h2; omega
  | succ m ih =>
    intro k j h1 h2
    unfold kaL at h2
    rcases Decidable.em (j = k) with e | e
    · subst e
      (repeat' split at h2) <;> omega
    · (repeat' split at h2)
      · exact ih (k + 1) j (by omega) h2
      · omega
      · omega
theorem kaL_cong {r r' : Int → Int} : ∀ (m : Nat) (k : Int), (∀ j, k ≤ j → j < k + m → r j = r' j) → kaL r m k = kaL r' m k := by
  intro m
  induction m with
  | zero => intro k _; rfl
  | succ m ih =>
    intro k h
    unfold kaL
    rw [h k (by omega) (by omega), ih (k + 1) (fun j a b => h j (by omega) (by omega))]
theorem tcS_cong {r r' : Int → Int} {a t : Int} : ∀ (m : Nat) (i n : Int) (f : Int → Int), (∀ j, i ≤ j → j < i + m → r j = r' j) → tcS r a t m i n f = tcS r' a t m i n f := by
  intro m
  induction m with
  | zero => intro i n f _; rfl
  | succ m ih =>
    intro i n f h
    unfold tcS
    rw [h i (by omega) (by omega), ih (i + 1) _ _ (fun j a b => h j (by omega) (by omega))]
theorem ts_eq {r : Int → Int} {a t : Int} (ha : 0 ≤ a ∧ a < 6) : ∀ (m : Nat) (i n : Int) (f g : Int → Int) (B : Int), HW B f g → 1000 ≤ B → t = g 8 → ∀ c : Nat, kaL r m i = i + c → (tcS r a t c i n f).1 = (trS r a m i n g).1 := by
  intro m
  induction m with
  | zero =>
    intro i n f g B h hB ht c hc
    have e : c = 0 := by unfold kaL at hc; omega
    subst e
    rfl
  | succ m ih =>
    intro i n f g B h hB ht c hc
    unfold kaL at hc
    unfold trS
    split at hc
    · split at hc
      · rename_i c1 c2
        rw [if_pos c1, if_pos c2]
        have kb := kaL_b r m (i + 1)
        obtain ⟨c', rfl⟩ : ∃ c', c = c' + 1 := ⟨c - 1, by omega⟩
        unfold tcS
        have w := HW.tr (t := t) h.now (by omega) ha ⟨c1, c2⟩ (by rw [ud_ne (by omega)]; exact ht)
        rw [w.1]
        exact ih (i + 1) _ _ _ (B + 1 + 300) w.2.1 (by omega) (by rw [w.2.2, ud_ne (by omega)]; exact ht) c' (by omega)
      · rename_i c1 c2
        rw [if_pos c1, if_neg c2]
        have e : c = 0 := by omega
        subst e
        rfl
    · rename_i c1
      rw [if_neg c1]
      have e : c = 0 := by omega
      subst e
      rfl
end KB
