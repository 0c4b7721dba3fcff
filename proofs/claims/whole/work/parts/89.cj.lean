/-! count: alike -/
section CJ
variable {f g : Int → Int} {B : Int}
theorem ct_blk {a : Int} (h : Sm0 f g) (ha : 0 ≤ a ∧ a < 6) : ∀ (m M : Nat) (j n : Int), j + m = 10 → 0 ≤ j → wCtL f 5 (m + M) (10 * a + j) n = wCtL f 5 M (10 * a + 10) (n + cnL (g 0) (fun j => g (eA a j)) m j) := by
  intro m
  induction m with
  | zero =>
    intro M j n h1 h2
    rw [Nat.zero_add, show j = 10 by omega]
    show _ = wCtL f 5 M (10 * a + 10) (n + 0)
    rw [Int.add_zero]
  | succ m ih =>
    intro M j n h1 h2
    obtain ⟨-, -, -, -, -, s5, -⟩ := h.S a j ha ⟨h2, by omega⟩
    have A0 := h.A
    unfold SmA at A0
    unfold EA at s5
    have e : 340 + (10 * a + j) * 12 + 5 = sA a j + 5 := by unfold sA; omega
    rw [show m + 1 + M = (m + M) + 1 by omega]
    show (if f 0 < f (340 + (10 * a + j) * 12 + 5) then wCtL f 5 (m + M) (10 * a + j + 1) (n + 1) else wCtL f 5 (m + M) (10 * a + j + 1) n) = wCtL f 5 M (10 * a + 10) (n + (if g 0 < g (eA a j) then 1 + cnL (g 0) (fun j => g (eA a j)) m (j + 1) else cnL (g 0) (fun j => g (eA a j)) m (j + 1)))
    rw [e]
    rcases Decidable.em (g 0 < g (eA a j)) with c | c
    · rw [if_pos (by omega), if_pos c, Int.add_assoc, ih M (j + 1) (n + 1) (by omega) (by omega), Int.add_assoc]
    · rw [if_neg (by omega), if_neg c, Int.add_assoc, ih M (j + 1) n (by omega) (by omega)]
theorem ct1 (h : Sm0 f g) : ∀ (M : Nat) (a n : Int), a + M = 6 → 0 ≤ a → wCtL f 5 (10 * M) (10 * a) n = rc1 g M a n := by
  intro M
  induction M with
  | zero => intro a n _ _; rfl
  | succ M ih =>
    intro a n h1 h2
    have q := ct_blk (a := a) h (by omega) 10 (10 * M) 0 n (by omega) (by omega)
    rw [Int.add_zero] at q
    have e := entL_cn g a 10 0 0
    rw [Int.zero_add] at e
    rw [show 10 * (M + 1) = 10 + 10 * M by omega, q, show 10 * a + 10 = 10 * (a + 1) by omega, ih (a + 1) _ (by omega) (by omega), ← e]
    rfl
theorem ct2 (h : Sm0 f g) : ∀ (m : Nat) (k n : Int), k + m = 60 → 0 ≤ k → wCtL f 10 m k n = rc2 g m k n := by
  intro m
  induction m with
  | zero => intro k n _ _; rfl
  | succ m ih =>
    intro k n h1 h2
    obtain ⟨-, -, -, -, -, -, -, -, -, -, s5, -⟩ := h.S (k / 10) (k % 10) (by omega) (by omega)
    have A0 := h.A
    unfold SmA at A0
    unfold EA at s5
    have e : 340 + k * 12 + 10 = sA (k / 10) (k % 10) + 10 := by unfold sA; omega
    have e2 : 702 + 3 * k = lA (k / 10) (k % 10) := by unfold lA; omega
    unfold wCtL rc2
    rw [e, e2]
    rcases Decidable.em (g 0 < g (lA (k / 10) (k % 10))) with c | c
    · rw [if_pos (by omega), if_pos c]; exact ih (k + 1) _ (by omega) (by omega)
    · rw [if_neg (by omega), if_neg c, Int.add_zero]; exact ih (k + 1) _ (by omega) (by omega)
theorem ct3 (h : Sm0 f g) : ∀ (m : Nat) (k n : Int), k + m = 30 → 0 ≤ k → wMkL f m k n = rc3 g m k n := by
  intro m
  induction m with
  | zero => intro k n _ _; rfl
  | succ m ih =>
    intro k n h1 h2
    have q := h.M (k / 10) (k % 10) (by omega) (by omega)
    rw [show 42 + k / 10 * 10 + k % 10 = 42 + k by omega, show 942 + 10 * (k / 10) + k % 10 = 942 + k by omega] at q
    unfold wMkL rc3
    rw [q, Int.add_zero]
    split <;> exact ih (k + 1) _ (by omega) (by omega)
theorem ct4 (h : Sm0 f g) : ∀ (m : Nat) (k n : Int), k + m = 6 → 0 ≤ k → wHdL f m k n = rc4 g m k n := by
  intro m
  induction m with
  | zero => intro k n _ _; rfl
  | succ m ih =>
    intro k n h1 h2
    have q := (h.H k (by omega)).2.2.2.2.2.2
    unfold wHdL rc4
    rcases Decidable.em (g (hA k + 1) = -1) with c | c
    · rw [if_pos c, show f (cA k + 7) = 0 by omega]; exact ih (k + 1) _ (by omega) (by omega)
    · rw [if_neg c, show f (cA k + 7) = 1 by omega]; exact ih (k + 1) _ (by omega) (by omega)
theorem ct6 {sz PS : Int → Int} (h : ∀ c, 0 ≤ c ∧ c < 6 → sz c = PS c) : ∀ (m : Nat) (k n : Int), k + m = 6 → 0 ≤ k → wPt sz m k n = rc6 PS m k n := by
  intro m
  induction m with
  | zero => intro k n _ _; rfl
  | succ m ih =>
    intro k n h1 h2
    have q := h k (by omega)
    unfold wPt rc6
    rw [q, Int.add_zero]
    rcases Decidable.em (PS k ≤ 0) with c | c
    · rw [if_neg (by omega), if_pos c]; exact ih (k + 1) _ (by omega) (by omega)
    · rw [if_pos (by omega), if_neg c]; exact ih (k + 1) _ (by omega) (by omega)
theorem q_count {ln bh dn i : Int} {sz PS : Int → Int} (h : Sm0 f g) (hs : ∀ c, 0 ≤ c ∧ c < 6 → sz c = PS c) (hb : bh = dn) : cCount f ln bh sz i = rCount g PS ln dn i := by
  have A0 := h.A
  unfold SmA at A0
  unfold cCount rCount
  rw [A0.2.1, A0.1, hb, show wCt f 5 = rc1 g 6 0 0 from ct1 h 6 0 0 (by omega) (by omega), show wCt f 10 = rc2 g 60 0 0 from ct2 h 60 0 0 (by omega) (by omega), show wMk f = rc3 g 30 0 0 from ct3 h 30 0 0 (by omega) (by omega), show wHd f = rc4 g 6 0 0 from ct4 h 6 0 0 (by omega) (by omega), ct6 hs 6 0 0 (by omega) (by omega)]
end CJ
