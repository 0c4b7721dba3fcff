/-! hottest: alike; each rank is taken -/
abbrev bt (v : Int → Int) (k a : Int) : Prop := v a < v k ∨ (v k = v a ∧ k < a)
def cb (v : Int → Int) (a : Int) : Nat → Int → Int
  | 0, _ => 0
  | m + 1, k => if bt v k a then 1 + cb v a m (k + 1) else cb v a m (k + 1)
section HJ
variable {f g : Int → Int} {B : Int} {v : Int → Int}
theorem cb_b (v : Int → Int) (a : Int) : ∀ (m : Nat) (k : Int), 0 ≤ cb v a m k ∧ (0 < cb v a m k → ∃ j, (k ≤ j ∧ j < k + m) ∧ bt v j a) := by
  intro m
  induction m with
  | zero => intro k; exact ⟨Int.le_refl 0, fun h => absurd h (Int.lt_irrefl 0)⟩
  | succ m ih =>
    intro k
    have q := ih (k + 1)
    unfold cb
    rcases Decidable.em (bt v k a) with c | c
    · rw [if_pos c]
      exact ⟨by omega, fun _ => ⟨k, by omega, c⟩⟩
    · rw [if_neg c]
      refine ⟨q.1, fun h => ?_⟩
      obtain ⟨j, h1, h2⟩ := q.2 h
      exact ⟨j, by omega, h2⟩
theorem cb_del {a w : Int} : ∀ (m : Nat) (k : Int), (∀ j, k ≤ j → j < k + m → (bt v j a ↔ bt v j w ∨ j = w)) → cb v a m k = cb v w m k + (if k ≤ w ∧ w < k + m then 1 else 0) := by
  intro m
  induction m with
  | zero => intro k h; rw [if_neg (by omega)]; rfl
  | succ m ih =>
    intro k h
    have q := ih (k + 1) (fun j q1 q2 => h j (by omega) (by omega))
    have q0 := h k (by omega) (by omega)
    unfold cb
    rw [q]
    rcases Decidable.em (k = w) with e | e
    · rw [if_pos (q0.mpr (Or.inr e)), if_neg (show ¬ bt v k w by rw [e]; unfold bt; omega), if_neg (by omega), if_pos (by omega)]
      omega
    · rcases Decidable.em (bt v k w) with c | c
      · rw [if_pos (q0.mpr (Or.inl c)), if_pos c]
        split <;> split <;> omega
      · rw [if_neg (fun d => (q0.mp d).elim c e), if_neg c]
        split <;> split <;> omega
theorem cb_all {w : Int} : ∀ (m : Nat) (k : Int), (∀ j, k ≤ j → j < k + m → j = w ∨ bt v j w) → cb v w m k = m - (if k ≤ w ∧ w < k + m then 1 else 0) := by
  intro m
  induction m with
  | zero => intro k h; rw [if_neg (by omega)]; rfl
  | succ m ih =>
    intro k h
    have q := ih (k + 1) (fun j q1 q2 => h j (by omega) (by omega))
    have q0 := h k (by omega) (by omega)
    unfold cb
    rw [q]
    rcases Decidable.em (k = w) with e | e
    · rw [if_neg (show ¬ bt v k w by rw [e]; unfold bt; omega), if_neg (by omega), if_pos (by omega)]
      omega
    · rw [if_pos (q0.resolve_left e)]
      split <;> split <;> omega
theorem worst (S : Int → Prop) : ∀ (m : Nat), (∃ k : Int, (0 ≤ k ∧ k < m) ∧ S k) → ∃ w : Int, (0 ≤ w ∧ w < m) ∧ S w ∧ ∀ k : Int, 0 ≤ k → k < m → S k → k = w ∨ bt v k w := by
  intro m
  induction m with
  | zero => intro ⟨k, h, _⟩; omega
  | succ m ih =>
    intro ⟨k, h1, h2⟩
    rcases Classical.em (∃ k : Int, (0 ≤ k ∧ k < (m : Int)) ∧ S k) with c | c
    · obtain ⟨w, w1, w2, w3⟩ := ih c
      rcases Classical.em (S (m : Int) ∧ bt v w (m : Int)) with d | d
      · refine ⟨(m : Int), by omega, d.1, fun j q1 q2 q3 => ?_⟩
        rcases Decidable.em (j = (m : Int)) with e | e
        · exact Or.inl e
        · have q := w3 j q1 (by omega) q3
          have d2 := d.2
          unfold bt at q d2 ⊢
          rcases q with q | q
          · rw [q]; exact Or.inr d2
          · omega
      · refine ⟨w, by omega, w2, fun j q1 q2 q3 => ?_⟩
        rcases Decidable.em (j = (m : Int)) with e | e
        · refine Or.inr ?_
          rw [e] at q3 ⊢
          have d2 : ¬ bt v w (m : Int) := fun x => d ⟨q3, x⟩
          unfold bt at d2 ⊢
          omega
        · exact w3 j q1 (by omega) q3
    · have e : k = (m : Int) := by
        rcases Decidable.em (k = (m : Int)) with e | e
        · exact e
        · exact absurd ⟨k, by omega, h2⟩ c
      refine ⟨k, by omega, h2, fun j q1 q2 q3 => ?_⟩
      rcases Decidable.em (j = k) with e2 | e2
      · exact Or.inl e2
      · exact absurd ⟨j, by omega, q3⟩ c
theorem cb_onto (v : Int → Int) : ∀ (d : Nat), d ≤ 9 → ∃ a, (0 ≤ a ∧ a < 10) ∧ cb v a 10 0 = 9 - d := by
  intro d
  induction d with
  | zero =>
    intro _
    obtain ⟨w, w1, -, w3⟩ := worst (v := v) (fun _ => True) 10 ⟨0, by omega, trivial⟩
    have q := cb_all (v := v) (w := w) 10 0 (fun j q1 q2 => w3 j q1 (by omega) trivial)
    rw [if_pos (by omega)] at q
    exact ⟨w, by omega, by omega⟩
  | succ d ih =>
    intro h
    obtain ⟨a, a1, a2⟩ := ih (by omega)
    obtain ⟨j, j1, j2⟩ := (cb_b v a 10 0).2 (by omega)
    obtain ⟨w, w1, w2, w3⟩ := worst (v := v) (fun k => bt v k a) 10 ⟨j, by omega, j2⟩
    have q := cb_del (v := v) (a := a) (w := w) 10 0 (fun i q1 q2 => ⟨fun x => (w3 i q1 (by omega) x).symm, fun x => by
      rcases x with x | x
      · have w4 : bt v w a := w2
        unfold bt at x w4 ⊢
        omega
      · rw [x]; exact w2⟩)
    rw [if_pos (by omega)] at q
    exact ⟨w, by omega, by omega⟩
theorem wHt_cb (f : Int → Int) (a : Int) : ∀ (m : Nat) (k n : Int), wHtL f a m k n = n + cb (fun i => f (20 + i)) a m k := by
  intro m
  induction m with
  | zero => intro k n; exact (Int.add_zero n).symm
  | succ m ih =>
    intro k n
    unfold wHtL cb bt
    rw [ih, ih]
    dsimp only
    (repeat' split) <;> omega
theorem rHi_cb (g : Int → Int) (j a : Int) : ∀ (m : Nat) (k n : Int), rHiL g j a m k n = n + cb (fun i => g (26 + i)) a m k := by
  intro m
  induction m with
  | zero => intro k n; exact (Int.add_zero n).symm
  | succ m ih =>
    intro k n
    unfold rHiL cb bt
    rw [ih, ih]
    dsimp only
    (repeat' split) <;> omega
theorem cb_eq {v v' : Int → Int} {a : Int} (ha : 0 ≤ a ∧ a < 10) (h : ∀ i, 0 ≤ i ∧ i < 10 → v i = v' i) : ∀ (m : Nat) (k : Int), k + m = 10 → 0 ≤ k → cb v a m k = cb v' a m k := by
  intro m
  induction m with
  | zero => intro k _ _; rfl
  | succ m ih =>
    intro k h1 h2
    unfold cb bt
    rw [ih (k + 1) (by omega) (by omega), h a ha, h k (by omega)]
theorem ho_eq {j : Int} (hv : ∀ k, 0 ≤ k ∧ k < 10 → wHt f k = rHiL g j k 10 0 0) : ∀ (m : Nat) (k : Int), k + m = 10 → 0 ≤ k → (∃ a, (k ≤ a ∧ a < 10) ∧ wHt f a = j) → wHkL f j m k = rHoL g j m k := by
  intro m
  induction m with
  | zero => intro k h1 h2 ⟨a, h3, _⟩; omega
  | succ m ih =>
    intro k h1 h2 ⟨a, h3, h4⟩
    unfold wHkL rHoL
    rw [hv k (by omega)]
    rcases Decidable.em (rHiL g j k 10 0 0 = j) with c | c
    · rw [if_pos c, if_pos c]
    · rw [if_neg c, if_neg c]
      refine ih (k + 1) (by omega) (by omega) ⟨a, ?_, h4⟩
      have e : a ≠ k := fun e => by rw [e, hv k (by omega)] at h4; exact c h4
      omega
theorem q_hottest {j : Int} (h : Sm0 f g) : cHottest f j = rHottest g j := by
  unfold cHottest rHottest
  rcases Decidable.em (0 ≤ j ∧ j < 10) with c | c
  · rw [if_pos c, if_pos (show 0 ≤ j ∧ j ≤ 9 by omega)]
    have hv : ∀ k, 0 ≤ k ∧ k < 10 → wHt f k = rHiL g j k 10 0 0 := fun k hk => by
      have e1 : wHt f k = 0 + cb (fun i => f (20 + i)) k 10 0 := wHt_cb f k 10 0 0
      rw [e1, rHi_cb, cb_eq (v' := fun i => g (26 + i)) hk (fun i hi => h.E i hi) 10 0 (by omega) (by omega)]
    obtain ⟨a, a1, a2⟩ := cb_onto (fun i => f (20 + i)) (9 - j).toNat (by omega)
    have e1 : wHt f a = 0 + cb (fun i => f (20 + i)) a 10 0 := wHt_cb f a 10 0 0
    exact ho_eq hv 10 0 (by omega) (by omega) ⟨a, a1, by omega⟩
  · rw [if_neg c, if_neg (show ¬ (0 ≤ j ∧ j ≤ 9) by omega)]
end HJ
