/-! settled: alike -/
section CK
variable {f g : Int → Int} {B : Int}
theorem ct7 (h : Sm0 f g) : ∀ (m : Nat) (k n : Int), k + m = 60 → 0 ≤ k → wCtL f 7 m k n = rs2 g m k n := by
  intro m
  induction m with
  | zero => intro k n _ _; rfl
  | succ m ih =>
    intro k n h1 h2
    obtain ⟨-, -, -, -, -, -, -, s7, -⟩ := h.S (k / 10) (k % 10) (by omega) (by omega)
    have A0 := h.A
    unfold SmA at A0
    unfold EA at s7
    have e : 340 + k * 12 + 7 = sA (k / 10) (k % 10) + 7 := by unfold sA; omega
    have e2 : 582 + 2 * k = oA (k / 10) (k % 10) := by unfold oA; omega
    unfold wCtL rs2
    rw [e, e2]
    rcases Decidable.em (g 0 < g (oA (k / 10) (k % 10))) with c | c
    · rw [if_pos (by omega), if_pos c]; exact ih (k + 1) _ (by omega) (by omega)
    · rw [if_neg (by omega), if_neg c, Int.add_zero]; exact ih (k + 1) _ (by omega) (by omega)
theorem og_rs (h : Sm0 f g) (hI : IM B g) : ∀ (m : Nat) (k n : Int), k + m = 6 → 0 ≤ k → wOgL f m k n = rs3 g m k n := by
  intro m
  induction m with
  | zero => intro k n _ _; rfl
  | succ m ih =>
    intro k n h1 h2
    have e : rOutdated g k = wOk f k := by
      unfold rOutdated
      rw [if_pos (by omega), wOk_eq h hI (by omega)]
    unfold wOgL rs3
    rw [e, Int.add_zero]
    split <;> exact ih (k + 1) _ (by omega) (by omega)
theorem rOut_r (h : Sm f g) (hI : IM B g) (k : Int) : r32 (rOutdated g k) := by
  rw [← q_outdated h hI k]
  unfold cOutdated
  split
  · exact wOk_r f k
  · unfold r32; omega
theorem A_settled {i : Int} (hA : AW B f g) (hB : 1000 ≤ B) (hi : 0 ≤ i ∧ i ≤ 3) : cSettled f i = rSt4 (gaL 3 0 0 g).2 (gaL 3 0 0 g).1 i ∧ ∀ k, r32 (rOutdated (gaL 3 0 0 g).2 k) := by
  have w := aa_eq 3 0 0 B f g (by omega) (by omega) hA hB
  refine ⟨?_, fun k => rOut_r w.2.1 w.2.2.1 k⟩
  have h0 := w.2.1.1
  unfold cSettled rSt4
  rcases (by omega : i = 0 ∨ i = 1 ∨ i = 2 ∨ i = 3) with rfl | rfl | rfl | rfl
  · exact w.1
  · exact ct1 h0 6 0 0 (by omega) (by omega)
  · exact ct7 h0 60 0 0 (by omega) (by omega)
  · exact og_rs h0 w.2.2.1 6 0 0 (by omega) (by omega)
end CK
