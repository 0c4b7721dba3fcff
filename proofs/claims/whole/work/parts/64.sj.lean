/-! the last write of a key; journal cells; what deletions keep -/
section SJ
variable {f g : Int → Int} {B : Int}
theorem lastL_fuel (g : Int → Int) (k : Int) : ∀ (m m' : Nat) (n : Int), n ≤ m → n ≤ m' → lastL g k m n = lastL g k m' n := by
  intro m
  induction m with
  | zero =>
    intro m' n h1 h2
    cases m' with
    | zero => rfl
    | succ m' => unfold lastL; rw [if_pos (by omega)]
  | succ m ih =>
    intro m' n h1 h2
    cases m' with
    | zero => unfold lastL; rw [if_pos (by omega)]
    | succ m' =>
      simp only [lastL]
      rw [ih m' (n + -1) (by omega) (by omega)]
theorem lastI_step {g : Int → Int} {k n : Int} (h : 0 ≤ n ∧ n < 60) : lastI g k (n + 1) = if g (36 + 3 * n) = k then n + 1 else lastI g k n := by
  unfold lastI
  rw [show lastL g k 60 (n + 1) = if n + 1 ≤ 0 then n + 1 else if g (36 + 3 * (n + 1 - 1)) = k then n + 1 else lastL g k 59 (n + 1 + -1) from rfl]
  rw [if_neg (by omega), show (36 : Int) + 3 * (n + 1 - 1) = 36 + 3 * n by omega, show n + 1 + -1 = n by omega, lastL_fuel g k 59 60 n (by omega) (by omega)]
theorem lastI_le {g : Int → Int} {k n : Int} (h : 0 ≤ n) : 0 ≤ lastI g k n ∧ lastI g k n ≤ n := lastL_b g k 60 n h
/-- places below n alone count -/
theorem lastL_low {g g' : Int → Int} {k : Int} {N : Int} (H : ∀ n, 1 ≤ n ∧ n ≤ N → g' (36 + 3 * (n - 1)) = g (36 + 3 * (n - 1))) : ∀ (m : Nat) (n : Int), n ≤ N → lastL g' k m n = lastL g k m n := by
  intro m
  induction m with
  | zero => intro n h; rfl
  | succ m ih =>
    intro n h
    unfold lastL
    split
    · rfl
    · rw [H n ⟨by omega, h⟩, ih (n + -1) (by omega)]
theorem im_del1 {a k : Int} (hI : IM B g) (ha : 0 ≤ a ∧ a < 6) (hk : 0 ≤ k ∧ k < 10) : IM (B + 100) (del1 g a k) := by
  have n0 := hI.n0 (j := 0) (by omega)
  have b0 := hI.b 0
  have s := hI.set
  have n24 := hI.n0 (j := 24) (by omega)
  have b24 := hI.b 24
  have e := hI.en ha hk
  have be := hI.b (eA a k + 1)
  unfold del1
  split
  · refine (((hI.up (by omega)).wr (cm_o0 ha hk ?_)).wr (cm_ol ha hk (by omega) (by omega) (by omega))).wr (cm_ct (by omega) (by omega))
    split <;> omega
  · exact hI.up (by omega)
theorem im_del2 {a k : Int} (hI : IM B g) (ha : 0 ≤ a ∧ a < 6) (hk : 0 ≤ k ∧ k < 10) : IM (B + 100) (del2 g a k) := by
  have n0 := hI.n0 (j := 0) (by omega)
  have b0 := hI.b 0
  have s := hI.set
  have n25 := hI.n0 (j := 25) (by omega)
  have b25 := hI.b 25
  unfold del2
  have h3 : IM (B + 100) (ud (ud (ud g (eA a k) 0) 25 (g 25 + (if g 0 < g (lA a k) then 1 else 0))) (lA a k) 0) := by
    refine (((hI.up (by omega)).wr (cm_e0 ha hk (by omega))).wr (cm_ct (by omega) ?_)).wr (cm_l0 ha hk (by omega))
    split <;> omega
  try dsimp only
  split
  · refine h3.wr (cm_ho ha hk ?_)
    split <;> omega
  · exact h3
theorem im_del {a k : Int} (hI : IM B g) (ha : 0 ≤ a ∧ a < 6) (hk : 0 ≤ k ∧ k < 10) : IM (B + 200) (spDel g a k) := (im_del2 (im_del1 hI ha hk) ha hk).up (by omega)
theorem sm_del1 {a k : Int} (h : Sm0 f g) (hI : IM B g) (ha : 0 ≤ a ∧ a < 6) (hk : 0 ≤ k ∧ k < 10) : Sm0 (wSt1 f a k) (ud (del1 g a k) (eA a k) 0) := by
  have q := (h.S a k ha hk)
  have a0 := h.A
  unfold SmA at a0
  unfold EA at q
  unfold wSt1 del1
  rcases Decidable.em (g 0 < g (eA a k)) with c | c
  · rw [if_pos (by omega), if_pos c]
    refine sm_st1T ha hk ?_ h hI
    split <;> omega
  · rw [if_neg (by omega), if_neg c]
    exact sm_st1F ha hk c h hI
theorem sm_del2 {a k : Int} (h : Sm0 f (ud g (eA a k) 0)) (hI : IM B (ud g (eA a k) 0)) (ha : 0 ≤ a ∧ a < 6) (hk : 0 ≤ k ∧ k < 10) : Sm0 (wSt3 (wSt2 f a k) a k) (del2 g a k) := by
  have b2 := eA_b ha hk
  have b4 := lA_b ha hk
  have b5 := dA_b ha hk
  have q := h.S a k ha hk
  have a0 := h.A
  have c0 := h.C a ha
  unfold SmA at a0
  unfold EA at q
  have z0 : ud g (eA a k) 0 0 = g 0 := ud_ne (by omega)
  have z1 : ud g (eA a k) 0 25 = g 25 := ud_ne (by omega)
  have z2 : ud g (eA a k) 0 (lA a k) = g (lA a k) := ud_ne (by omega)
  have z3 : ud g (eA a k) 0 (216 + a) = g (216 + a) := ud_ne (by omega)
  have z7 : ud g (eA a k) 0 7 = g 7 := ud_ne (by omega)
  rw [z0, z2] at q
  rw [z0] at a0
  rw [z3] at c0
  have n25 := hI.n0 (j := 25) (by omega)
  have b25 := hI.b 25
  rw [z1] at n25 b25
  have n0 := hI.n0 (j := 0) (by omega)
  have B0 := hI.b 0
  rw [z0] at n0 B0
  have hJ : IM (B + 100) (ud (ud (ud g (eA a k) 0) 25 (g 25 + (if g 0 < g (lA a k) then 1 else 0))) (lA a k) 0) := by
    refine ((hI.up (by omega)).wr (cm_ct (by omega) ?_)).wr (cm_l0 ha hk (by omega))
    split <;> omega
  have h2 : Sm0 (wSt2 f a k) (ud (ud (ud g (eA a k) 0) 25 (g 25 + (if g 0 < g (lA a k) then 1 else 0))) (lA a k) 0) := by
    unfold wSt2
    rcases Decidable.em (g 0 < g (lA a k)) with c | c
    · rw [if_pos (by omega), if_pos c]
      have := sm_st2T ha hk h hI
      rw [z1] at this
      exact this
    · rw [if_neg (by omega), if_neg c]
      have := sm_st2F ha hk (by rw [z0, z2]; exact c) h hI
      rw [z1] at this
      exact this
  have w0 : ∀ y z : Int, ud (ud (ud g (eA a k) 0) 25 y) (lA a k) z 0 = g 0 := fun y z => by rw [ud_ne (by omega), ud_ne (by omega), z0]
  have w7 : ∀ y z : Int, ud (ud (ud g (eA a k) 0) 25 y) (lA a k) z 7 = g 7 := fun y z => by rw [ud_ne (by omega), ud_ne (by omega), z7]
  have wc : ∀ y z : Int, ud (ud (ud g (eA a k) 0) 25 y) (lA a k) z (216 + a) = g (216 + a) := fun y z => by rw [ud_ne (by omega), ud_ne (by omega), z3]
  have k0 := h2.C a ha
  rw [wc] at k0
  unfold wSt3 del2
  try dsimp only
  rcases Decidable.em (g (216 + a) = 1) with c | c
  · rw [if_pos (by omega), if_pos c]
    refine sm_st3T ha hk ?_ h2 hJ
    rw [w0, w7]
    split <;> omega
  · rw [if_neg (by omega), if_neg c]
    exact h2
theorem sm_del {a k : Int} (h : Sm0 f g) (hI : IM B g) (ha : 0 ≤ a ∧ a < 6) (hk : 0 ≤ k ∧ k < 10) : Sm0 (wStrike f a k) (spDel g a k) := by
  have n0 := hI.n0 (j := 0) (by omega)
  have B0 := hI.b 0
  exact sm_del2 (sm_del1 h hI ha hk) ((im_del1 hI ha hk).wr (cm_e0 ha hk (by omega))) ha hk
end SJ
