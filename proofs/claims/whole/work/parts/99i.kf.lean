/-! what is wanted last: bits and booleans -/
def bs (b : Int → Int) : Int := b 0 + 2 * b 1 + 4 * b 2 + 8 * b 3 + 16 * b 4 + 32 * b 5 + 64 * b 6 + 128 * b 7 + 256 * b 8 + 512 * b 9
def cnt (b : Int → Int) : Int := b 0 + b 1 + b 2 + b 3 + b 4 + b 5 + b 6 + b 7 + b 8 + b 9
def b01 (b : Int → Int) : Prop := ∀ k, 0 ≤ k ∧ k < 10 → b k = 0 ∨ b k = 1
section KF
variable {b N r : Int → Int}
theorem b01.x (h : b01 b) : (0 ≤ b 0 ∧ b 0 ≤ 1) ∧ (0 ≤ b 1 ∧ b 1 ≤ 1) ∧ (0 ≤ b 2 ∧ b 2 ≤ 1) ∧ (0 ≤ b 3 ∧ b 3 ≤ 1) ∧ (0 ≤ b 4 ∧ b 4 ≤ 1) ∧ (0 ≤ b 5 ∧ b 5 ≤ 1) ∧ (0 ≤ b 6 ∧ b 6 ≤ 1) ∧ (0 ≤ b 7 ∧ b 7 ≤ 1) ∧ (0 ≤ b 8 ∧ b 8 ≤ 1) ∧ (0 ≤ b 9 ∧ b 9 ≤ 1) := ⟨(by have := h 0 (by omega); omega), (by have := h 1 (by omega); omega), (by have := h 2 (by omega); omega), (by have := h 3 (by omega); omega), (by have := h 4 (by omega); omega), (by have := h 5 (by omega); omega), (by have := h 6 (by omega); omega), (by have := h 7 (by omega); omega), (by have := h 8 (by omega); omega), (by have := h 9 (by omega); omega)⟩
theorem b01.ud {k x : Int} (h : b01 b) (hx : x = 0 ∨ x = 1) : b01 (ud b k x) := fun j hj => by
  rcases Decidable.em (j = k) with e | e
  · rw [e, ud_eq]; exact hx
  · rw [ud_ne e]; exact h j hj
theorem bs_b (h : b01 b) : 0 ≤ bs b ∧ bs b < 1024 := by have := h.x; unfold bs; omega
theorem cnt_b (h : b01 b) : 0 ≤ cnt b ∧ cnt b ≤ 10 := by have := h.x; unfold cnt; omega
theorem bs_bit {k : Int} (h : b01 b) (hk : 0 ≤ k ∧ k < 10) : bs b / pw k % 2 = b k := by
  have q := h.x
  rcases in10 hk with rfl | rfl | rfl | rfl | rfl | rfl | rfl | rfl | rfl | rfl
  · rw [show pw 0 = 1 from rfl]; unfold bs; omega
  · rw [show pw 1 = 2 from rfl]; unfold bs; omega
  · rw [show pw 2 = 4 from rfl]; unfold bs; omega
  · rw [show pw 3 = 8 from rfl]; unfold bs; omega
  · rw [show pw 4 = 16 from rfl]; unfold bs; omega
  · rw [show pw 5 = 32 from rfl]; unfold bs; omega
  · rw [show pw 6 = 64 from rfl]; unfold bs; omega
  · rw [show pw 7 = 128 from rfl]; unfold bs; omega
  · rw [show pw 8 = 256 from rfl]; unfold bs; omega
  · rw [show pw 9 = 512 from rfl]; unfold bs; omega
theorem bs_clr {k : Int} (hk : 0 ≤ k ∧ k < 10) : bs (ud b k 0) = bs b - b k * pw k := by
  rcases in10 hk with rfl | rfl | rfl | rfl | rfl | rfl | rfl | rfl | rfl | rfl
  · rw [show pw 0 = 1 from rfl]; unfold bs; rw [show ud b 0 0 0 = 0 from ud_eq, show ud b 0 0 1 = b 1 from ud_ne (by decide), show ud b 0 0 2 = b 2 from ud_ne (by decide), show ud b 0 0 3 = b 3 from ud_ne (by decide), show ud b 0 0 4 = b 4 from ud_ne (by decide), show ud b 0 0 5 = b 5 from ud_ne (by decide), show ud b 0 0 6 = b 6 from ud_ne (by decide), show ud b 0 0 7 = b 7 from ud_ne (by decide), show ud b 0 0 8 = b 8 from ud_ne (by decide), show ud b 0 0 9 = b 9 from ud_ne (by decide)]; omega
  · rw [show pw 1 = 2 from rfl]; unfold bs; rw [show ud b 1 0 0 = b 0 from ud_ne (by decide), show ud b 1 0 1 = 0 from ud_eq, show ud b 1 0 2 = b 2 from ud_ne (by decide), show ud b 1 0 3 = b 3 from ud_ne (by decide), show ud b 1 0 4 = b 4 from ud_ne (by decide), show ud b 1 0 5 = b 5 from ud_ne (by decide), show ud b 1 0 6 = b 6 from ud_ne (by decide), show ud b 1 0 7 = b 7 from ud_ne (by decide), show ud b 1 0 8 = b 8 from ud_ne (by decide), show ud b 1 0 9 = b 9 from ud_ne (by decide)]; omega
  · rw [show pw 2 = 4 from rfl]; unfold bs; rw [show ud b 2 0 0 = b 0 from ud_ne (by decide), show ud b 2 0 1 = b 1 from ud_ne (by decide), show ud b 2 0 2 = 0 from ud_eq, show ud b 2 0 3 = b 3 from ud_ne (by decide), show ud b 2 0 4 = b 4 from ud_ne (by decide), show ud b 2 0 5 = b 5 from ud_ne (by decide), show ud b 2 0 6 = b 6 from ud_ne (by decide), show ud b 2 0 7 = b 7 from ud_ne (by decide), show ud b 2 0 8 = b 8 from ud_ne (by decide), show ud b 2 0 9 = b 9 from ud_ne (by decide)]; omega
  · rw [show pw 3 = 8 from rfl]; unfold bs; rw [show ud b 3 0 0 = b 0 from ud_ne (by decide), show ud b 3 0 1 = b 1 from ud_ne (by decide), show ud b 3 0 2 = b 2 from ud_ne (by decide), show ud b 3 0 3 = 0 from ud_eq, show ud b 3 0 4 = b 4 from ud_ne (by decide), show ud b 3 0 5 = b 5 from ud_ne (by decide), show ud b 3 0 6 = b 6 from ud_ne (by decide), show ud b 3 0 7 = b 7 from ud_ne (by decide), show ud b 3 0 8 = b 8 from ud_ne (by decide), show ud b 3 0 9 = b 9 from ud_ne (by decide)]; omega
  · rw [show pw 4 = 16 from rfl]; unfold bs; rw [show ud b 4 0 0 = b 0 from ud_ne (by decide), show ud b 4 0 1 = b 1 from ud_ne (by decide), show ud b 4 0 2 = b 2 from ud_ne (by decide), show ud b 4 0 3 = b 3 from ud_ne (by decide), show ud b 4 0 4 = 0 from ud_eq, show ud b 4 0 5 = b 5 from ud_ne (by decide), show ud b 4 0 6 = b 6 from ud_ne (by decide), show ud b 4 0 7 = b 7 from ud_ne (by decide), show ud b 4 0 8 = b 8 from ud_ne (by decide), show ud b 4 0 9 = b 9 from ud_ne (by decide)]; omega
  · rw [show pw 5 = 32 from rfl]; unfold bs; rw [show ud b 5 0 0 = b 0 from ud_ne (by decide), show ud b 5 0 1 = b 1 from ud_ne (by decide), show ud b 5 0 2 = b 2 from ud_ne (by decide), show ud b 5 0 3 = b 3 from ud_ne (by decide), show ud b 5 0 4 = b 4 from ud_ne (by decide), show ud b 5 0 5 = 0 from ud_eq, show ud b 5 0 6 = b 6 from ud_ne (by decide), show ud b 5 0 7 = b 7 from ud_ne (by decide), show ud b 5 0 8 = b 8 from ud_ne (by decide), show ud b 5 0 9 = b 9 from ud_ne (by decide)]; omega
  · rw [show pw 6 = 64 from rfl]; unfold bs; rw [show ud b 6 0 0 = b 0 from ud_ne (by decide), show ud b 6 0 1 = b 1 from ud_ne (by decide), show ud b 6 0 2 = b 2 from ud_ne (by decide), show ud b 6 0 3 = b 3 from ud_ne (by decide), show ud b 6 0 4 = b 4 from ud_ne (by decide), show ud b 6 0 5 = b 5 from ud_ne (by decide), show ud b 6 0 6 = 0 from ud_eq, show ud b 6 0 7 = b 7 from ud_ne (by decide), show ud b 6 0 8 = b 8 from ud_ne (by decide), show ud b 6 0 9 = b 9 from ud_ne (by decide)]; omega
  · rw [show pw 7 = 128 from rfl]; unfold bs; rw [show ud b 7 0 0 = b 0 from ud_ne (by decide), show ud b 7 0 1 = b 1 from ud_ne (by decide), show ud b 7 0 2 = b 2 from ud_ne (by decide), show ud b 7 0 3 = b 3 from ud_ne (by decide), show ud b 7 0 4 = b 4 from ud_ne (by decide), show ud b 7 0 5 = b 5 from ud_ne (by decide), show ud b 7 0 6 = b 6 from ud_ne (by decide), show ud b 7 0 7 = 0 from ud_eq, show ud b 7 0 8 = b 8 from ud_ne (by decide), show ud b 7 0 9 = b 9 from ud_ne (by decide)]; omega
  · rw [show pw 8 = 256 from rfl]; unfold bs; rw [show ud b 8 0 0 = b 0 from ud_ne (by decide), show ud b 8 0 1 = b 1 from ud_ne (by decide), show ud b 8 0 2 = b 2 from ud_ne (by decide), show ud b 8 0 3 = b 3 from ud_ne (by decide), show ud b 8 0 4 = b 4 from ud_ne (by decide), show ud b 8 0 5 = b 5 from ud_ne (by decide), show ud b 8 0 6 = b 6 from ud_ne (by decide), show ud b 8 0 7 = b 7 from ud_ne (by decide), show ud b 8 0 8 = 0 from ud_eq, show ud b 8 0 9 = b 9 from ud_ne (by decide)]; omega
  · rw [show pw 9 = 512 from rfl]; unfold bs; rw [show ud b 9 0 0 = b 0 from ud_ne (by decide), show ud b 9 0 1 = b 1 from ud_ne (by decide), show ud b 9 0 2 = b 2 from ud_ne (by decide), show ud b 9 0 3 = b 3 from ud_ne (by decide), show ud b 9 0 4 = b 4 from ud_ne (by decide), show ud b 9 0 5 = b 5 from ud_ne (by decide), show ud b 9 0 6 = b 6 from ud_ne (by decide), show ud b 9 0 7 = b 7 from ud_ne (by decide), show ud b 9 0 8 = b 8 from ud_ne (by decide), show ud b 9 0 9 = 0 from ud_eq]; omega
theorem bs_set {k : Int} (hk : 0 ≤ k ∧ k < 10) : bs (ud b k 1) = bs b + (1 - b k) * pw k := by
  rcases in10 hk with rfl | rfl | rfl | rfl | rfl | rfl | rfl | rfl | rfl | rfl
  · rw [show pw 0 = 1 from rfl]; unfold bs; rw [show ud b 0 1 0 = 1 from ud_eq, show ud b 0 1 1 = b 1 from ud_ne (by decide), show ud b 0 1 2 = b 2 from ud_ne (by decide), show ud b 0 1 3 = b 3 from ud_ne (by decide), show ud b 0 1 4 = b 4 from ud_ne (by decide), show ud b 0 1 5 = b 5 from ud_ne (by decide), show ud b 0 1 6 = b 6 from ud_ne (by decide), show ud b 0 1 7 = b 7 from ud_ne (by decide), show ud b 0 1 8 = b 8 from ud_ne (by decide), show ud b 0 1 9 = b 9 from ud_ne (by decide)]; omega
  · rw [show pw 1 = 2 from rfl]; unfold bs; rw [show ud b 1 1 0 = b 0 from ud_ne (by decide), show ud b 1 1 1 = 1 from ud_eq, show ud b 1 1 2 = b 2 from ud_ne (by decide), show ud b 1 1 3 = b 3 from ud_ne (by decide), show ud b 1 1 4 = b 4 from ud_ne (by decide), show ud b 1 1 5 = b 5 from ud_ne (by decide), show ud b 1 1 6 = b 6 from ud_ne (by decide), show ud b 1 1 7 = b 7 from ud_ne (by decide), show ud b 1 1 8 = b 8 from ud_ne (by decide), show ud b 1 1 9 = b 9 from ud_ne (by decide)]; omega
  · rw [show pw 2 = 4 from rfl]; unfold bs; rw [show ud b 2 1 0 = b 0 from ud_ne (by decide), show ud b 2 1 1 = b 1 from ud_ne (by decide), show ud b 2 1 2 = 1 from ud_eq, show ud b 2 1 3 = b 3 from ud_ne (by decide), show ud b 2 1 4 = b 4 from ud_ne (by decide), show ud b 2 1 5 = b 5 from ud_ne (by decide), show ud b 2 1 6 = b 6 from ud_ne (by decide), show ud b 2 1 7 = b 7 from ud_ne (by decide), show ud b 2 1 8 = b 8 from ud_ne (by decide), show ud b 2 1 9 = b 9 from ud_ne (by decide)]; omega
  · rw [show pw 3 = 8 from rfl]; unfold bs; rw [show ud b 3 1 0 = b 0 from ud_ne (by decide), show ud b 3 1 1 = b 1 from ud_ne (by decide), show ud b 3 1 2 = b 2 from ud_ne (by decide), show ud b 3 1 3 = 1 from ud_eq, show ud b 3 1 4 = b 4 from ud_ne (by decide), show ud b 3 1 5 = b 5 from ud_ne (by decide), show ud b 3 1 6 = b 6 from ud_ne (by decide), show ud b 3 1 7 = b 7 from ud_ne (by decide), show ud b 3 1 8 = b 8 from ud_ne (by decide), show ud b 3 1 9 = b 9 from ud_ne (by decide)]; omega
  · rw [show pw 4 = 16 from rfl]; unfold bs; rw [show ud b 4 1 0 = b 0 from ud_ne (by decide), show ud b 4 1 1 = b 1 from ud_ne (by decide), show ud b 4 1 2 = b 2 from ud_ne (by decide), show ud b 4 1 3 = b 3 from ud_ne (by decide), show ud b 4 1 4 = 1 from ud_eq, show ud b 4 1 5 = b 5 from ud_ne (by decide), show ud b 4 1 6 = b 6 from ud_ne (by decide), show ud b 4 1 7 = b 7 from ud_ne (by decide), show ud b 4 1 8 = b 8 from ud_ne (by decide), show ud b 4 1 9 = b 9 from ud_ne (by decide)]; omega
  · rw [show pw 5 = 32 from rfl]; unfold bs; rw [show ud b 5 1 0 = b 0 from ud_ne (by decide), show ud b 5 1 1 = b 1 from ud_ne (by decide), show ud b 5 1 2 = b 2 from ud_ne (by decide), show ud b 5 1 3 = b 3 from ud_ne (by decide), show ud b 5 1 4 = b 4 from ud_ne (by decide), show ud b 5 1 5 = 1 from ud_eq, show ud b 5 1 6 = b 6 from ud_ne (by decide), show ud b 5 1 7 = b 7 from ud_ne (by decide), show ud b 5 1 8 = b 8 from ud_ne (by decide), show ud b 5 1 9 = b 9 from ud_ne (by decide)]; omega
  · rw [show pw 6 = 64 from rfl]; unfold bs; rw [show ud b 6 1 0 = b 0 from ud_ne (by decide), show ud b 6 1 1 = b 1 from ud_ne (by decide), show ud b 6 1 2 = b 2 from ud_ne (by decide), show ud b 6 1 3 = b 3 from ud_ne (by decide), show ud b 6 1 4 = b 4 from ud_ne (by decide), show ud b 6 1 5 = b 5 from ud_ne (by decide), show ud b 6 1 6 = 1 from ud_eq, show ud b 6 1 7 = b 7 from ud_ne (by decide), show ud b 6 1 8 = b 8 from ud_ne (by decide), show ud b 6 1 9 = b 9 from ud_ne (by decide)]; omega
  · rw [show pw 7 = 128 from rfl]; unfold bs; rw [show ud b 7 1 0 = b 0 from ud_ne (by decide), show ud b 7 1 1 = b 1 from ud_ne (by decide), show ud b 7 1 2 = b 2 from ud_ne (by decide), show ud b 7 1 3 = b 3 from ud_ne (by decide), show ud b 7 1 4 = b 4 from ud_ne (by decide), show ud b 7 1 5 = b 5 from ud_ne (by decide), show ud b 7 1 6 = b 6 from ud_ne (by decide), show ud b 7 1 7 = 1 from ud_eq, show ud b 7 1 8 = b 8 from ud_ne (by decide), show ud b 7 1 9 = b 9 from ud_ne (by decide)]; omega
  · rw [show pw 8 = 256 from rfl]; unfold bs; rw [show ud b 8 1 0 = b 0 from ud_ne (by decide), show ud b 8 1 1 = b 1 from ud_ne (by decide), show ud b 8 1 2 = b 2 from ud_ne (by decide), show ud b 8 1 3 = b 3 from ud_ne (by decide), show ud b 8 1 4 = b 4 from ud_ne (by decide), show ud b 8 1 5 = b 5 from ud_ne (by decide), show ud b 8 1 6 = b 6 from ud_ne (by decide), show ud b 8 1 7 = b 7 from ud_ne (by decide), show ud b 8 1 8 = 1 from ud_eq, show ud b 8 1 9 = b 9 from ud_ne (by decide)]; omega
  · rw [show pw 9 = 512 from rfl]; unfold bs; rw [show ud b 9 1 0 = b 0 from ud_ne (by decide), show ud b 9 1 1 = b 1 from ud_ne (by decide), show ud b 9 1 2 = b 2 from ud_ne (by decide), show ud b 9 1 3 = b 3 from ud_ne (by decide), show ud b 9 1 4 = b 4 from ud_ne (by decide), show ud b 9 1 5 = b 5 from ud_ne (by decide), show ud b 9 1 6 = b 6 from ud_ne (by decide), show ud b 9 1 7 = b 7 from ud_ne (by decide), show ud b 9 1 8 = b 8 from ud_ne (by decide), show ud b 9 1 9 = 1 from ud_eq]; omega
theorem cnt_clr {k : Int} (hk : 0 ≤ k ∧ k < 10) : cnt (ud b k 0) = cnt b - b k := by
  rcases in10 hk with rfl | rfl | rfl | rfl | rfl | rfl | rfl | rfl | rfl | rfl
  · unfold cnt; rw [show ud b 0 0 0 = 0 from ud_eq, show ud b 0 0 1 = b 1 from ud_ne (by decide), show ud b 0 0 2 = b 2 from ud_ne (by decide), show ud b 0 0 3 = b 3 from ud_ne (by decide), show ud b 0 0 4 = b 4 from ud_ne (by decide), show ud b 0 0 5 = b 5 from ud_ne (by decide), show ud b 0 0 6 = b 6 from ud_ne (by decide), show ud b 0 0 7 = b 7 from ud_ne (by decide), show ud b 0 0 8 = b 8 from ud_ne (by decide), show ud b 0 0 9 = b 9 from ud_ne (by decide)]; omega
  · unfold cnt; rw [show ud b 1 0 0 = b 0 from ud_ne (by decide), show ud b 1 0 1 = 0 from ud_eq, show ud b 1 0 2 = b 2 from ud_ne (by decide), show ud b 1 0 3 = b 3 from ud_ne (by decide), show ud b 1 0 4 = b 4 from ud_ne (by decide), show ud b 1 0 5 = b 5 from ud_ne (by decide), show ud b 1 0 6 = b 6 from ud_ne (by decide), show ud b 1 0 7 = b 7 from ud_ne (by decide), show ud b 1 0 8 = b 8 from ud_ne (by decide), show ud b 1 0 9 = b 9 from ud_ne (by decide)]; omega
  · unfold cnt; rw [show ud b 2 0 0 = b 0 from ud_ne (by decide), show ud b 2 0 1 = b 1 from ud_ne (by decide), show ud b 2 0 2 = 0 from ud_eq, show ud b 2 0 3 = b 3 from ud_ne (by decide), show ud b 2 0 4 = b 4 from ud_ne (by decide), show ud b 2 0 5 = b 5 from ud_ne (by decide), show ud b 2 0 6 = b 6 from ud_ne (by decide), show ud b 2 0 7 = b 7 from ud_ne (by decide), show ud b 2 0 8 = b 8 from ud_ne (by decide), show ud b 2 0 9 = b 9 from ud_ne (by decide)]; omega
  · unfold cnt; rw [show ud b 3 0 0 = b 0 from ud_ne (by decide), show ud b 3 0 1 = b 1 from ud_ne (by decide), show ud b 3 0 2 = b 2 from ud_ne (by decide), show ud b 3 0 3 = 0 from ud_eq, show ud b 3 0 4 = b 4 from ud_ne (by decide), show ud b 3 0 5 = b 5 from ud_ne (by decide), show ud b 3 0 6 = b 6 from ud_ne (by decide), show ud b 3 0 7 = b 7 from ud_ne (by decide), show ud b 3 0 8 = b 8 from ud_ne (by decide), show ud b 3 0 9 = b 9 from ud_ne (by decide)]; omega
  · unfold cnt; rw [show ud b 4 0 0 = b 0 from ud_ne (by decide), show ud b 4 0 1 = b 1 from ud_ne (by decide), show ud b 4 0 2 = b 2 from ud_ne (by decide), show ud b 4 0 3 = b 3 from ud_ne (by decide), show ud b 4 0 4 = 0 from ud_eq, show ud b 4 0 5 = b 5 from ud_ne (by decide), show ud b 4 0 6 = b 6 from ud_ne (by decide), show ud b 4 0 7 = b 7 from ud_ne (by decide), show ud b 4 0 8 = b 8 from ud_ne (by decide), show ud b 4 0 9 = b 9 from ud_ne (by decide)]; omega
  · unfold cnt; rw [show ud b 5 0 0 = b 0 from ud_ne (by decide), show ud b 5 0 1 = b 1 from ud_ne (by decide), show ud b 5 0 2 = b 2 from ud_ne (by decide), show ud b 5 0 3 = b 3 from ud_ne (by decide), show ud b 5 0 4 = b 4 from ud_ne (by decide), show ud b 5 0 5 = 0 from ud_eq, show ud b 5 0 6 = b 6 from ud_ne (by decide), show ud b 5 0 7 = b 7 from ud_ne (by decide), show ud b 5 0 8 = b 8 from ud_ne (by decide), show ud b 5 0 9 = b 9 from ud_ne (by decide)]; omega
  · unfold cnt; rw [show ud b 6 0 0 = b 0 from ud_ne (by decide), show ud b 6 0 1 = b 1 from ud_ne (by decide), show ud b 6 0 2 = b 2 from ud_ne (by decide), show ud b 6 0 3 = b 3 from ud_ne (by decide), show ud b 6 0 4 = b 4 from ud_ne (by decide), show ud b 6 0 5 = b 5 from ud_ne (by decide), show ud b 6 0 6 = 0 from ud_eq, show ud b 6 0 7 = b 7 from ud_ne (by decide), show ud b 6 0 8 = b 8 from ud_ne (by decide), show ud b 6 0 9 = b 9 from ud_ne (by decide)]; omega
  · unfold cnt; rw [show ud b 7 0 0 = b 0 from ud_ne (by decide), show ud b 7 0 1 = b 1 from ud_ne (by decide), show ud b 7 0 2 = b 2 from ud_ne (by decide), show ud b 7 0 3 = b 3 from ud_ne (by decide), show ud b 7 0 4 = b 4 from ud_ne (by decide), show ud b 7 0 5 = b 5 from ud_ne (by decide), show ud b 7 0 6 = b 6 from ud_ne (by decide), show ud b 7 0 7 = 0 from ud_eq, show ud b 7 0 8 = b 8 from ud_ne (by decide), show ud b 7 0 9 = b 9 from ud_ne (by decide)]; omega
  · unfold cnt; rw [show ud b 8 0 0 = b 0 from ud_ne (by decide), show ud b 8 0 1 = b 1 from ud_ne (by decide), show ud b 8 0 2 = b 2 from ud_ne (by decide), show ud b 8 0 3 = b 3 from ud_ne (by decide), show ud b 8 0 4 = b 4 from ud_ne (by decide), show ud b 8 0 5 = b 5 from ud_ne (by decide), show ud b 8 0 6 = b 6 from ud_ne (by decide), show ud b 8 0 7 = b 7 from ud_ne (by decide), show ud b 8 0 8 = 0 from ud_eq, show ud b 8 0 9 = b 9 from ud_ne (by decide)]; omega
  · unfold cnt; rw [show ud b 9 0 0 = b 0 from ud_ne (by decide), show ud b 9 0 1 = b 1 from ud_ne (by decide), show ud b 9 0 2 = b 2 from ud_ne (by decide), show ud b 9 0 3 = b 3 from ud_ne (by decide), show ud b 9 0 4 = b 4 from ud_ne (by decide), show ud b 9 0 5 = b 5 from ud_ne (by decide), show ud b 9 0 6 = b 6 from ud_ne (by decide), show ud b 9 0 7 = b 7 from ud_ne (by decide), show ud b 9 0 8 = b 8 from ud_ne (by decide), show ud b 9 0 9 = 0 from ud_eq]; omega
theorem cnt_set {k : Int} (hk : 0 ≤ k ∧ k < 10) : cnt (ud b k 1) = cnt b + 1 - b k := by
  rcases in10 hk with rfl | rfl | rfl | rfl | rfl | rfl | rfl | rfl | rfl | rfl
  · unfold cnt; rw [show ud b 0 1 0 = 1 from ud_eq, show ud b 0 1 1 = b 1 from ud_ne (by decide), show ud b 0 1 2 = b 2 from ud_ne (by decide), show ud b 0 1 3 = b 3 from ud_ne (by decide), show ud b 0 1 4 = b 4 from ud_ne (by decide), show ud b 0 1 5 = b 5 from ud_ne (by decide), show ud b 0 1 6 = b 6 from ud_ne (by decide), show ud b 0 1 7 = b 7 from ud_ne (by decide), show ud b 0 1 8 = b 8 from ud_ne (by decide), show ud b 0 1 9 = b 9 from ud_ne (by decide)]; omega
  · unfold cnt; rw [show ud b 1 1 0 = b 0 from ud_ne (by decide), show ud b 1 1 1 = 1 from ud_eq, show ud b 1 1 2 = b 2 from ud_ne (by decide), show ud b 1 1 3 = b 3 from ud_ne (by decide), show ud b 1 1 4 = b 4 from ud_ne (by decide), show ud b 1 1 5 = b 5 from ud_ne (by decide), show ud b 1 1 6 = b 6 from ud_ne (by decide), show ud b 1 1 7 = b 7 from ud_ne (by decide), show ud b 1 1 8 = b 8 from ud_ne (by decide), show ud b 1 1 9 = b 9 from ud_ne (by decide)]; omega
  · unfold cnt; rw [show ud b 2 1 0 = b 0 from ud_ne (by decide), show ud b 2 1 1 = b 1 from ud_ne (by decide), show ud b 2 1 2 = 1 from ud_eq, show ud b 2 1 3 = b 3 from ud_ne (by decide), show ud b 2 1 4 = b 4 from ud_ne (by decide), show ud b 2 1 5 = b 5 from ud_ne (by decide), show ud b 2 1 6 = b 6 from ud_ne (by decide), show ud b 2 1 7 = b 7 from ud_ne (by decide), show ud b 2 1 8 = b 8 from ud_ne (by decide), show ud b 2 1 9 = b 9 from ud_ne (by decide)]; omega
  · unfold cnt; rw [show ud b 3 1 0 = b 0 from ud_ne (by decide), show ud b 3 1 1 = b 1 from ud_ne (by decide), show ud b 3 1 2 = b 2 from ud_ne (by decide), show ud b 3 1 3 = 1 from ud_eq, show ud b 3 1 4 = b 4 from ud_ne (by decide), show ud b 3 1 5 = b 5 from ud_ne (by decide), show ud b 3 1 6 = b 6 from ud_ne (by decide), show ud b 3 1 7 = b 7 from ud_ne (by decide), show ud b 3 1 8 = b 8 from ud_ne (by decide), show ud b 3 1 9 = b 9 from ud_ne (by decide)]; omega
  · unfold cnt; rw [show ud b 4 1 0 = b 0 from ud_ne (by decide), show ud b 4 1 1 = b 1 from ud_ne (by decide), show ud b 4 1 2 = b 2 from ud_ne (by decide), show ud b 4 1 3 = b 3 from ud_ne (by decide), show ud b 4 1 4 = 1 from ud_eq, show ud b 4 1 5 = b 5 from ud_ne (by decide), show ud b 4 1 6 = b 6 from ud_ne (by decide), show ud b 4 1 7 = b 7 from ud_ne (by decide), show ud b 4 1 8 = b 8 from ud_ne (by decide), show ud b 4 1 9 = b 9 from ud_ne (by decide)]; omega
  · unfold cnt; rw [show ud b 5 1 0 = b 0 from ud_ne (by decide), show ud b 5 1 1 = b 1 from ud_ne (by decide), show ud b 5 1 2 = b 2 from ud_ne (by decide), show ud b 5 1 3 = b 3 from ud_ne (by decide), show ud b 5 1 4 = b 4 from ud_ne (by decide), show ud b 5 1 5 = 1 from ud_eq, show ud b 5 1 6 = b 6 from ud_ne (by decide), show ud b 5 1 7 = b 7 from ud_ne (by decide), show ud b 5 1 8 = b 8 from ud_ne (by decide), show ud b 5 1 9 = b 9 from ud_ne (by decide)]; omega
  · unfold cnt; rw [show ud b 6 1 0 = b 0 from ud_ne (by decide), show ud b 6 1 1 = b 1 from ud_ne (by decide), show ud b 6 1 2 = b 2 from ud_ne (by decide), show ud b 6 1 3 = b 3 from ud_ne (by decide), show ud b 6 1 4 = b 4 from ud_ne (by decide), show ud b 6 1 5 = b 5 from ud_ne (by decide), show ud b 6 1 6 = 1 from ud_eq, show ud b 6 1 7 = b 7 from ud_ne (by decide), show ud b 6 1 8 = b 8 from ud_ne (by decide), show ud b 6 1 9 = b 9 from ud_ne (by decide)]; omega
  · unfold cnt; rw [show ud b 7 1 0 = b 0 from ud_ne (by decide), show ud b 7 1 1 = b 1 from ud_ne (by decide), show ud b 7 1 2 = b 2 from ud_ne (by decide), show ud b 7 1 3 = b 3 from ud_ne (by decide), show ud b 7 1 4 = b 4 from ud_ne (by decide), show ud b 7 1 5 = b 5 from ud_ne (by decide), show ud b 7 1 6 = b 6 from ud_ne (by decide), show ud b 7 1 7 = 1 from ud_eq, show ud b 7 1 8 = b 8 from ud_ne (by decide), show ud b 7 1 9 = b 9 from ud_ne (by decide)]; omega
  · unfold cnt; rw [show ud b 8 1 0 = b 0 from ud_ne (by decide), show ud b 8 1 1 = b 1 from ud_ne (by decide), show ud b 8 1 2 = b 2 from ud_ne (by decide), show ud b 8 1 3 = b 3 from ud_ne (by decide), show ud b 8 1 4 = b 4 from ud_ne (by decide), show ud b 8 1 5 = b 5 from ud_ne (by decide), show ud b 8 1 6 = b 6 from ud_ne (by decide), show ud b 8 1 7 = b 7 from ud_ne (by decide), show ud b 8 1 8 = 1 from ud_eq, show ud b 8 1 9 = b 9 from ud_ne (by decide)]; omega
  · unfold cnt; rw [show ud b 9 1 0 = b 0 from ud_ne (by decide), show ud b 9 1 1 = b 1 from ud_ne (by decide), show ud b 9 1 2 = b 2 from ud_ne (by decide), show ud b 9 1 3 = b 3 from ud_ne (by decide), show ud b 9 1 4 = b 4 from ud_ne (by decide), show ud b 9 1 5 = b 5 from ud_ne (by decide), show ud b 9 1 6 = b 6 from ud_ne (by decide), show ud b 9 1 7 = b 7 from ud_ne (by decide), show ud b 9 1 8 = b 8 from ud_ne (by decide), show ud b 9 1 9 = 1 from ud_eq]; omega
theorem cnt_pos {k : Int} (h : b01 b) (hk : 0 ≤ k ∧ k < 10) (hb : b k = 1) : 1 ≤ cnt b := by
  have q := h.x
  unfold cnt
  rcases in10 hk with rfl | rfl | rfl | rfl | rfl | rfl | rfl | rfl | rfl | rfl <;> omega
theorem bc_bs (h : b01 b) : bc10 (bs b) = cnt b := by
  have h0 := bs_bit (k := 0) h (by omega)
  rw [show pw 0 = 1 from rfl] at h0
  have h1 := bs_bit (k := 1) h (by omega)
  rw [show pw 1 = 2 from rfl] at h1
  have h2 := bs_bit (k := 2) h (by omega)
  rw [show pw 2 = 4 from rfl] at h2
  have h3 := bs_bit (k := 3) h (by omega)
  rw [show pw 3 = 8 from rfl] at h3
  have h4 := bs_bit (k := 4) h (by omega)
  rw [show pw 4 = 16 from rfl] at h4
  have h5 := bs_bit (k := 5) h (by omega)
  rw [show pw 5 = 32 from rfl] at h5
  have h6 := bs_bit (k := 6) h (by omega)
  rw [show pw 6 = 64 from rfl] at h6
  have h7 := bs_bit (k := 7) h (by omega)
  rw [show pw 7 = 128 from rfl] at h7
  have h8 := bs_bit (k := 8) h (by omega)
  rw [show pw 8 = 256 from rfl] at h8
  have h9 := bs_bit (k := 9) h (by omega)
  rw [show pw 9 = 512 from rfl] at h9
  unfold bc10 cnt
  omega
/-- the lowest bit's place -/
def lwx (n : Int) : Int := if n / 1 % 2 = 1 then 0 else if n / 2 % 2 = 1 then 1 else if n / 4 % 2 = 1 then 2 else if n / 8 % 2 = 1 then 3 else if n / 16 % 2 = 1 then 4 else if n / 32 % 2 = 1 then 5 else if n / 64 % 2 = 1 then 6 else if n / 128 % 2 = 1 then 7 else if n / 256 % 2 = 1 then 8 else 9
theorem lw_sp (h : b01 b) (hp : 1 ≤ cnt b) : (0 ≤ lwx (bs b) ∧ lwx (bs b) < 10) ∧ b (lwx (bs b)) = 1 ∧ ∀ j, 0 ≤ j → j < lwx (bs b) → b j = 0 := by
  have q := h.x
  have h0 := bs_bit (k := 0) h (by omega)
  rw [show pw 0 = 1 from rfl] at h0
  have h1 := bs_bit (k := 1) h (by omega)
  rw [show pw 1 = 2 from rfl] at h1
  have h2 := bs_bit (k := 2) h (by omega)
  rw [show pw 2 = 4 from rfl] at h2
  have h3 := bs_bit (k := 3) h (by omega)
  rw [show pw 3 = 8 from rfl] at h3
  have h4 := bs_bit (k := 4) h (by omega)
  rw [show pw 4 = 16 from rfl] at h4
  have h5 := bs_bit (k := 5) h (by omega)
  rw [show pw 5 = 32 from rfl] at h5
  have h6 := bs_bit (k := 6) h (by omega)
  rw [show pw 6 = 64 from rfl] at h6
  have h7 := bs_bit (k := 7) h (by omega)
  rw [show pw 7 = 128 from rfl] at h7
  have h8 := bs_bit (k := 8) h (by omega)
  rw [show pw 8 = 256 from rfl] at h8
  have h9 := bs_bit (k := 9) h (by omega)
  rw [show pw 9 = 512 from rfl] at h9
  have e : lwx (bs b) = if b 0 = 1 then 0 else if b 1 = 1 then 1 else if b 2 = 1 then 2 else if b 3 = 1 then 3 else if b 4 = 1 then 4 else if b 5 = 1 then 5 else if b 6 = 1 then 6 else if b 7 = 1 then 7 else if b 8 = 1 then 8 else 9 := by
    unfold lwx
    rw [h0, h1, h2, h3, h4, h5, h6, h7, h8]
  rw [e]
  clear e h0 h1 h2 h3 h4 h5 h6 h7 h8 h9
  unfold cnt at hp
  (repeat' split) <;> refine ⟨by omega, by omega, fun j h1 h2 => ?_⟩ <;> (rcases in10 (k := j) ⟨h1, by omega⟩ with rfl | rfl | rfl | rfl | rfl | rfl | rfl | rfl | rfl | rfl <;> omega)
theorem an_fin : ∀ k : Fin 10, ∀ n : Fin 1024, Int32.ofInt (n.val : Int) &&& Int32.ofInt (pw (k.val : Int)) = Int32.ofInt ((n.val : Int) / pw (k.val : Int) % 2 * pw (k.val : Int)) := by decide +kernel
theorem ac_fin : ∀ k : Fin 10, ∀ n : Fin 1024, Int32.ofInt (n.val : Int) &&& Int32.ofInt (-pw (k.val : Int) - 1) = Int32.ofInt ((n.val : Int) - (n.val : Int) / pw (k.val : Int) % 2 * pw (k.val : Int)) := by decide +kernel
theorem ao_fin : ∀ k : Fin 10, ∀ n : Fin 1024, Int32.ofInt (n.val : Int) ||| Int32.ofInt (pw (k.val : Int)) = Int32.ofInt ((n.val : Int) + (1 - (n.val : Int) / pw (k.val : Int) % 2) * pw (k.val : Int)) := by decide +kernel
theorem al_fin : ∀ n : Fin 1024, 0 < n.val → Int32.ofInt (n.val : Int) &&& Int32.ofInt (-(n.val : Int)) = Int32.ofInt (pw (lwx (n.val : Int))) := by decide +kernel
theorem xr_pw {k : Int} (hk : 0 ≤ k ∧ k < 10) : Int32.ofInt (pw k) ^^^ Int32.ofInt (-1) = Int32.ofInt (-pw k - 1) := by
  rcases in10 hk with rfl | rfl | rfl | rfl | rfl | rfl | rfl | rfl | rfl | rfl <;> decide
theorem an_bs {k : Int} (h : b01 b) (hk : 0 ≤ k ∧ k < 10) : Int32.ofInt (bs b) &&& Int32.ofInt (pw k) = Int32.ofInt (b k * pw k) := by
  have q := bs_b h
  have e := an_fin ⟨k.toNat, by omega⟩ ⟨(bs b).toNat, by omega⟩
  have e1 : ((k.toNat : Nat) : Int) = k := by omega
  have e2 : (((bs b).toNat : Nat) : Int) = bs b := by omega
  simp only [e1, e2, bs_bit h hk] at e
  exact e
theorem ac_bs {k : Int} (h : b01 b) (hk : 0 ≤ k ∧ k < 10) : Int32.ofInt (bs b) &&& Int32.ofInt (-pw k - 1) = Int32.ofInt (bs (ud b k 0)) := by
  have q := bs_b h
  have e := ac_fin ⟨k.toNat, by omega⟩ ⟨(bs b).toNat, by omega⟩
  have e1 : ((k.toNat : Nat) : Int) = k := by omega
  have e2 : (((bs b).toNat : Nat) : Int) = bs b := by omega
  simp only [e1, e2, bs_bit h hk] at e
  rw [bs_clr hk]
  exact e
theorem ao_bs {k : Int} (h : b01 b) (hk : 0 ≤ k ∧ k < 10) : Int32.ofInt (bs b) ||| Int32.ofInt (pw k) = Int32.ofInt (bs (ud b k 1)) := by
  have q := bs_b h
  have e := ao_fin ⟨k.toNat, by omega⟩ ⟨(bs b).toNat, by omega⟩
  have e1 : ((k.toNat : Nat) : Int) = k := by omega
  have e2 : (((bs b).toNat : Nat) : Int) = bs b := by omega
  simp only [e1, e2, bs_bit h hk] at e
  rw [bs_set hk]
  exact e
theorem bs_pos (h : b01 b) (hp : 1 ≤ cnt b) : 1 ≤ bs b := by have := h.x; unfold bs; unfold cnt at hp; omega
theorem al_bs (h : b01 b) (hp : 1 ≤ cnt b) : Int32.ofInt (bs b) &&& Int32.ofInt (-bs b) = Int32.ofInt (pw (lwx (bs b))) := by
  have q := bs_b h
  have q2 := bs_pos h hp
  have e := al_fin ⟨(bs b).toNat, by omega⟩ (by show 0 < (bs b).toNat; omega)
  have e2 : (((bs b).toNat : Nat) : Int) = bs b := by omega
  simp only [e2] at e
  exact e
/-- the lowest of those with the highest N -/
def IsAM (b N : Int → Int) (k : Int) : Prop := (0 ≤ k ∧ k < 10) ∧ b k = 1 ∧ (∀ j, 0 ≤ j ∧ j < 10 → b j = 1 → N j ≤ N k) ∧ ∀ j, 0 ≤ j → j < k → b j = 1 → N j < N k
theorem am_un {k k' : Int} (h : IsAM b N k) (h' : IsAM b N k') : k = k' := by
  rcases Decidable.em (k < k') with c | c
  · have a := h'.2.2.2 k h.1.1 c h.2.1
    have d := h.2.2.1 k' h'.1 h'.2.1
    omega
  · rcases Decidable.em (k' < k) with c2 | c2
    · have a := h.2.2.2 k' h'.1.1 c2 h'.2.1
      have d := h'.2.2.1 k h.1 h.2.1
      omega
    · omega
def amL (b N : Int → Int) : Nat → Int → Int → Int
  | 0, _, v => v
  | m + 1, k, v => if b k = 0 then amL b N m (k + 1) v else if v = -1 then amL b N m (k + 1) k else if N k ≤ N v then amL b N m (k + 1) v else amL b N m (k + 1) k
theorem amL_sp (h : b01 b) : ∀ (m : Nat) (k v : Int), k + m = 10 → 0 ≤ k → (v = -1 ∧ (∀ j, 0 ≤ j → j < k → b j = 0) ∨ (0 ≤ v ∧ v < k) ∧ b v = 1 ∧ (∀ j, 0 ≤ j → j < k → b j = 1 → N j ≤ N v) ∧ ∀ j, 0 ≤ j → j < v → b j = 1 → N j < N v) → (amL b N m k v = -1 ∧ (∀ j, 0 ≤ j → j < 10 → b j = 0)) ∨ IsAM b N (amL b N m k v) := by
  intro m
  induction m with
  | zero =>
    intro k v h1 h2 h3
    have e : k = 10 := by omega
    subst e
    unfold amL
    rcases h3 with h3 | h3
    · exact Or.inl h3
    · exact Or.inr ⟨h3.1, h3.2.1, fun j hj => h3.2.2.1 j hj.1 hj.2, h3.2.2.2⟩
  | succ m ih =>
    intro k v h1 h2 h3
    have bk := h k ⟨h2, by omega⟩
    have lt : ∀ j, j < k + 1 → j < k ∨ j = k := fun j _ => by omega
    unfold amL
    rcases Decidable.em (b k = 0) with c | c
    · rw [if_pos c]
      refine ih _ _ (by omega) (by omega) ?_
      rcases h3 with h3 | h3
      · refine Or.inl ⟨h3.1, fun j q1 q2 => ?_⟩
        rcases lt j q2 with e | e
        · exact h3.2 j q1 e
        · rw [e]; exact c
      · refine Or.inr ⟨by omega, h3.2.1, fun j q1 q2 q3 => ?_, h3.2.2.2⟩
        rcases lt j q2 with e | e
        · exact h3.2.2.1 j q1 e q3
        · rw [e] at q3; omega
    · rw [if_neg c]
      rcases Decidable.em (v = -1) with c2 | c2
      · rw [if_pos c2]
        refine ih _ _ (by omega) (by omega) (Or.inr ⟨by omega, by omega, fun j q1 q2 q3 => ?_, fun j q1 q2 q3 => ?_⟩)
        · rcases h3 with h3 | h3
          · rcases lt j q2 with e | e
            · have := h3.2 j q1 e; omega
            · rw [e]; exact Int.le_refl _
          · omega
        · rcases h3 with h3 | h3
          · have := h3.2 j q1 q2; omega
          · omega
      · rw [if_neg c2]
        have h4 := h3.resolve_left (fun x => c2 x.1)
        rcases Decidable.em (N k ≤ N v) with c3 | c3
        · rw [if_pos c3]
          refine ih _ _ (by omega) (by omega) (Or.inr ⟨by omega, h4.2.1, fun j q1 q2 q3 => ?_, h4.2.2.2⟩)
          rcases lt j q2 with e | e
          · exact h4.2.2.1 j q1 e q3
          · rw [e]; exact c3
        · rw [if_neg c3]
          refine ih _ _ (by omega) (by omega) (Or.inr ⟨by omega, by omega, fun j q1 q2 q3 => ?_, fun j q1 q2 q3 => ?_⟩)
          · rcases lt j q2 with e | e
            · have := h4.2.2.1 j q1 e q3; omega
            · rw [e]; exact Int.le_refl _
          · have := h4.2.2.1 j q1 q2 q3; omega
theorem cnt0 (h : ∀ j, 0 ≤ j → j < 10 → b j = 0) : cnt b = 0 := by
  unfold cnt
  rw [h 0 (by omega) (by omega), h 1 (by omega) (by omega), h 2 (by omega) (by omega), h 3 (by omega) (by omega), h 4 (by omega) (by omega), h 5 (by omega) (by omega), h 6 (by omega) (by omega), h 7 (by omega) (by omega), h 8 (by omega) (by omega), h 9 (by omega) (by omega)]
  rfl
theorem amL_am (h : b01 b) (hp : 1 ≤ cnt b) : IsAM b N (amL b N 10 0 (-1)) := by
  rcases amL_sp (N := N) h 10 0 (-1) (by omega) (by omega) (Or.inl ⟨rfl, fun j q1 q2 => by omega⟩) with w | w
  · have := cnt0 w.2; omega
  · exact w
/-- where a key is met next -/
def nxL (r : Int → Int) (k : Int) : Nat → Int → Int
  | 0, _ => 40
  | m + 1, i => if r i = k then i else nxL r k m (i + 1)
theorem nx_b {k : Int} : ∀ (m : Nat) (i : Int), i + m ≤ 40 → i ≤ nxL r k m i ∧ nxL r k m i ≤ 40 := by
  intro m
  induction m with
  | zero => intro i h; unfold nxL; omega
  | succ m ih =>
    intro i h
    have := ih (i + 1) (by omega)
    unfold nxL
    split <;> omega
/-- what is left unmet -/
def wlL (r : Int → Int) : Nat → Int → (Int → Int) → (Int → Int)
  | 0, _, b => b
  | m + 1, i, b => if cnt b ≤ 1 then b else wlL r m (i + 1) (ud b (r i) 0)
theorem wl_ok : ∀ (m : Nat) (i : Int) (b : Int → Int), b01 b → 1 ≤ cnt b → (∀ j, i ≤ j → j < i + m → 0 ≤ r j ∧ r j < 10) → b01 (wlL r m i b) ∧ 1 ≤ cnt (wlL r m i b) := by
  intro m
  induction m with
  | zero => intro i b h hp _; exact ⟨h, hp⟩
  | succ m ih =>
    intro i b h hp hk
    have k0 := hk i (by omega) (by omega)
    unfold wlL
    split
    · exact ⟨h, hp⟩
    · have e := cnt_clr (b := b) k0
      have bk := h (r i) k0
      exact ih _ _ (h.ud (Or.inl rfl)) (by omega) (fun j q1 q2 => hk j (by omega) (by omega))
theorem wl_am : ∀ (m : Nat) (i : Int) (b : Int → Int), b01 b → 1 ≤ cnt b → i + m ≤ 40 → (∀ j, i ≤ j → j < i + m → 0 ≤ r j ∧ r j < 10) → IsAM b (fun k => nxL r k m i) (lwx (bs (wlL r m i b))) := by
  intro m
  induction m with
  | zero =>
    intro i b h hp _ _
    have w := lw_sp h hp
    exact ⟨w.1, w.2.1, fun j _ _ => Int.le_refl _, fun j q1 q2 q3 => by have := w.2.2 j q1 q2; omega⟩
  | succ m ih =>
    intro i b h hp hm hk
    have k0 := hk i (by omega) (by omega)
    have e := cnt_clr (b := b) k0
    have bk := h (r i) k0
    unfold wlL
    rcases Decidable.em (cnt b ≤ 1) with c | c
    · rw [if_pos c]
      have w := lw_sp h hp
      have one : ∀ j, 0 ≤ j ∧ j < 10 → b j = 1 → j = lwx (bs b) := fun j hj hb => by
        rcases Decidable.em (j = lwx (bs b)) with c2 | c2
        · exact c2
        · have e2 := cnt_clr (b := b) hj
          have := cnt_pos (b := ud b j 0) (k := lwx (bs b)) (h.ud (Or.inl rfl)) w.1 (by rw [ud_ne (fun x => c2 x.symm)]; exact w.2.1)
          omega
      exact ⟨w.1, w.2.1, fun j q1 q2 => by rw [one j q1 q2]; exact Int.le_refl _, fun j q1 q2 q3 => by have := one j ⟨q1, by omega⟩ q3; omega⟩
    · rw [if_neg c]
      have w := ih (i + 1) (ud b (r i) 0) (h.ud (Or.inl rfl)) (by omega) (by omega) (fun j q1 q2 => hk j (by omega) (by omega))
      generalize lwx (bs (wlL r m (i + 1) (ud b (r i) 0))) = k at w ⊢
      have hne : k ≠ r i := fun x => by have := w.2.1; rw [x, ud_eq] at this; omega
      have nk : nxL r k (m + 1) i = nxL r k m (i + 1) := if_neg (fun x => hne x.symm)
      have nb := nx_b (r := r) (k := k) m (i + 1) (by omega)
      have st : ∀ j, 0 ≤ j ∧ j < 10 → b j = 1 → j = r i ∧ nxL r j (m + 1) i = i ∨ j ≠ r i ∧ nxL r j (m + 1) i = nxL r j m (i + 1) ∧ ud b (r i) 0 j = 1 := fun j hj hb => by
        rcases Decidable.em (j = r i) with c2 | c2
        · exact Or.inl ⟨c2, if_pos c2.symm⟩
        · exact Or.inr ⟨c2, if_neg (fun x => c2 x.symm), by rw [ud_ne c2]; exact hb⟩
      refine ⟨w.1, by have := w.2.1; rw [ud_ne hne] at this; exact this, fun j hj hb => ?_, fun j q1 q2 hb => ?_⟩
      · show nxL r j (m + 1) i ≤ nxL r k (m + 1) i
        rcases st j hj hb with c2 | c2
        · omega
        · have := w.2.2.1 j hj c2.2.2
          dsimp only at this
          omega
      · show nxL r j (m + 1) i < nxL r k (m + 1) i
        rcases st j ⟨q1, by have := w.1; omega⟩ hb with c2 | c2
        · omega
        · have := w.2.2.2 j q1 q2 c2.2.2
          dsimp only at this
          omega
/-- what is not met at i is met behind it -/
theorem am_st {i k : Int} {m : Nat} (hn : b (r i) = 0) (h : IsAM b (fun k => nxL r k m (i + 1)) k) : IsAM b (fun k => nxL r k (m + 1) i) k := by
  have st : ∀ j, b j = 1 → nxL r j (m + 1) i = nxL r j m (i + 1) := fun j hb => if_neg (fun x => by rw [x] at hn; omega)
  refine ⟨h.1, h.2.1, fun j hj hb => ?_, fun j q1 q2 hb => ?_⟩
  · show nxL r j (m + 1) i ≤ nxL r k (m + 1) i
    rw [st j hb, st k h.2.1]
    exact h.2.2.1 j hj hb
  · show nxL r j (m + 1) i < nxL r k (m + 1) i
    rw [st j hb, st k h.2.1]
    exact h.2.2.2 j q1 q2 hb
/-- letting go until there is room -/
def evF (N : Int → Int) (room : Int) : Nat → (Int → Int) → (Int → Int)
  | 0, b => b
  | m + 1, b => if cnt b < room then b else evF N room m (ud b (amL b N 10 0 (-1)) 0)
def fsL (r : Int → Int) (room : Int) : Nat → Int → Int → (Int → Int) → Int
  | 0, _, n, _ => n
  | m + 1, i, n, b => if b (r i) = 1 then fsL r room m (i + 1) (n + 1) b else fsL r room m (i + 1) n (ud (evF (fun k => nxL r k (m + 1) i) room 10 b) (r i) 1)
theorem evF_01 {room : Int} : ∀ (m : Nat) (b : Int → Int), b01 b → b01 (evF N room m b) := by
  intro m
  induction m with
  | zero => intro b h; exact h
  | succ m ih => intro b h; unfold evF; split; exact h; exact ih _ (h.ud (Or.inl rfl))
theorem fs_b {room : Int} : ∀ (m : Nat) (i n : Int) (b : Int → Int), n ≤ fsL r room m i n b ∧ fsL r room m i n b ≤ n + m := by
  intro m
  induction m with
  | zero => intro i n b; unfold fsL; exact ⟨Int.le_refl _, by show n ≤ n + ((0 : Nat) : Int); omega⟩
  | succ m ih =>
    intro i n b
    unfold fsL
    split
    · have := ih (i + 1) (n + 1) b; omega
    · have := ih (i + 1) n (ud (evF (fun k => nxL r k (m + 1) i) room 10 b) (r i) 1); omega
theorem nxL_cong {r' : Int → Int} {k : Int} : ∀ (m : Nat) (i : Int), (∀ j, i ≤ j → j < i + m → r j = r' j) → nxL r k m i = nxL r' k m i := by
  intro m
  induction m with
  | zero => intro i _; rfl
  | succ m ih => intro i h; unfold nxL; rw [h i (by omega) (by omega), ih (i + 1) (fun j a b => h j (by omega) (by omega))]
theorem fsL_cong {r' : Int → Int} {room : Int} : ∀ (m : Nat) (i n : Int) (b : Int → Int), (∀ j, i ≤ j → j < i + m → r j = r' j) → fsL r room m i n b = fsL r' room m i n b := by
  intro m
  induction m with
  | zero => intro i n b _; rfl
  | succ m ih =>
    intro i n b h
    have e : (fun k => nxL r k (m + 1) i) = fun k => nxL r' k (m + 1) i := funext fun k => nxL_cong (m + 1) i h
    unfold fsL
    rw [e, h i (by omega) (by omega), ih (i + 1) _ _ (fun j a b => h j (by omega) (by omega)), ih (i + 1) _ _ (fun j a b => h j (by omega) (by omega))]
/-- the bits of what is there -/
def bsF (b : Int → Int) : Nat → Int → Int
  | 0, _ => 0
  | m + 1, k => b k * pw k + bsF b m (k + 1)
theorem wEk_bs {f : Int → Int} {a : Int} : ∀ (m : Nat) (k n : Int), wEkL f a m k n = n + bsF (fun j => if f 0 < f (sA a j + 5) then 1 else 0) m k := by
  intro m
  induction m with
  | zero => intro k n; exact (Int.add_zero n).symm
  | succ m ih =>
    intro k n
    unfold wEkL bsF
    split
    · rw [ih, Int.one_mul, Int.add_assoc]
    · rw [ih, Int.zero_mul, Int.zero_add]
theorem wEk_is {f : Int → Int} {a : Int} : wEk f a = bs (fun j => if f 0 < f (sA a j + 5) then 1 else 0) := by
  have e := wEk_bs (f := f) (a := a) 10 0 0
  have e2 : ∀ b : Int → Int, bsF b 10 0 = bs b := fun b => by
    show b 0 * pw 0 + (b 1 * pw 1 + (b 2 * pw 2 + (b 3 * pw 3 + (b 4 * pw 4 + (b 5 * pw 5 + (b 6 * pw 6 + (b 7 * pw 7 + (b 8 * pw 8 + (b 9 * pw 9 + 0))))))))) = _
    rw [show pw 0 = 1 from rfl, show pw 1 = 2 from rfl, show pw 2 = 4 from rfl, show pw 3 = 8 from rfl, show pw 4 = 16 from rfl, show pw 5 = 32 from rfl, show pw 6 = 64 from rfl, show pw 7 = 128 from rfl, show pw 8 = 256 from rfl, show pw 9 = 512 from rfl]
    unfold bs
    omega
  rw [e2, Int.zero_add] at e
  exact e
end KF
