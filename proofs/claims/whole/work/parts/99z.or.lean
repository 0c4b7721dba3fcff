/-! orders: the next one -/
def risL (o : Int → Int) : Nat → Int → Int
  | 0, i => i
  | m + 1, i => if o (i + 1) ≤ o i then risL o m (i - 1) else i
def higL (o : Int → Int) (v : Int) : Nat → Int → Int
  | 0, j => j
  | m + 1, j => if o j ≤ v then higL o v m (j - 1) else j
def swO (o : Int → Int) (i j : Int) : Int → Int := ud (ud o i (o j)) j (o i)
def revL : Nat → (Int → Int) → Int → Int → (Int → Int)
  | 0, o, _, _ => o
  | m + 1, o, i, j => if i < j then revL m (swO o i j) (i + 1) (j - 1) else o
def risO (o : Int → Int) (n : Int) : Int := risL o (n - 1).toNat (n - 2)
def higO (o : Int → Int) (n : Int) : Int := higL o (o (risO o n)) (n - 1 - risO o n).toNat (n - 1)
def nxO (o : Int → Int) (n : Int) : Int → Int := revL 8 (swO o (risO o n) (higO o n)) (risO o n + 1) (n - 1)
def cntO (o : Int → Int) (c : Int) : Nat → Int
  | 0 => 0
  | m + 1 => cntO o c m + (if o m = c then 1 else 0)
def INo (cl o : Int → Int) (n : Int) : Prop := ∀ i, 0 ≤ i ∧ i < n → (0 ≤ o i ∧ o i < 6) ∧ cl (o i) = 1
def wvO (p o : Int → Int) : Nat → Int
  | 0 => 0
  | m + 1 => 3 * wvO p o m + p (o m)
/-- how many of a set stand below -/
def rkO (cl : Int → Int) (c : Int) : Int := (if 0 < c then cl 0 else 0) + (if 1 < c then cl 1 else 0) + (if 2 < c then cl 2 else 0) + (if 3 < c then cl 3 else 0) + (if 4 < c then cl 4 else 0)
section OR_
variable {o cl p : Int → Int} {n c : Int}
theorem ris_b : ∀ (m : Nat) (i : Int), i = m - 1 → -1 ≤ risL o m i ∧ risL o m i ≤ i ∧ (0 ≤ risL o m i → o (risL o m i) < o (risL o m i + 1)) := by
  intro m
  induction m with
  | zero => intro i h; unfold risL; omega
  | succ m ih =>
    intro i h
    unfold risL
    split
    · have := ih (i - 1) (by omega); omega
    · rename_i c
      exact ⟨by omega, Int.le_refl _, fun _ => by omega⟩
theorem risO_b (hn : 1 ≤ n) : -1 ≤ risO o n ∧ risO o n ≤ n - 2 ∧ (0 ≤ risO o n → o (risO o n) < o (risO o n + 1)) := ris_b (n - 1).toNat (n - 2) (by omega)
theorem hig_b {v r : Int} (hr : v < o (r + 1)) : ∀ (m : Nat) (j : Int), j = r + m → 1 ≤ m → (r < higL o v m j ∧ higL o v m j ≤ j) ∧ v < o (higL o v m j) := by
  intro m
  induction m with
  | zero => intro j _ h; exact absurd h (by omega)
  | succ m ih =>
    intro j h1 h2
    unfold higL
    split
    · rename_i c
      rcases Nat.eq_zero_or_pos m with e | e
      · subst e; exfalso; rw [show j = r + 1 by omega] at c; omega
      · have := ih (j - 1) (by omega) e; omega
    · exact ⟨by omega, by omega⟩
theorem higO_b (hn : 1 ≤ n) (h0 : 0 ≤ risO o n) : (risO o n < higO o n ∧ higO o n ≤ n - 1) ∧ o (risO o n) < o (higO o n) := by
  have r := risO_b (o := o) hn
  exact hig_b (r.2.2 h0) (n - 1 - risO o n).toNat (n - 1) (by omega) (by omega)
theorem sw_at {i j k : Int} : swO o i j k = if k = j then o i else if k = i then o j else o k := by unfold swO ud; rfl
theorem sw_in {i j : Int} (h : INo cl o n) (hi : 0 ≤ i ∧ i < n) (hj : 0 ≤ j ∧ j < n) : INo cl (swO o i j) n := fun k hk => by
  rw [sw_at]
  split
  · exact h i hi
  · split
    · exact h j hj
    · exact h k hk
theorem cnt_ud {i v : Int} : ∀ m : Nat, cntO (ud o i v) c m = cntO o c m + (if 0 ≤ i ∧ i < m then (if v = c then 1 else 0) - (if o i = c then 1 else 0) else 0) := by
  intro m
  induction m with
  | zero => rw [if_neg (by omega)]; rfl
  | succ m ih =>
    unfold cntO
    rw [ih]
    rcases Decidable.em ((m : Int) = i) with e | e
    · subst e
      rw [ud_eq, if_neg (show ¬ (0 ≤ (m : Int) ∧ (m : Int) < (m : Int)) by omega), if_pos (show 0 ≤ (m : Int) ∧ (m : Int) < ((m + 1 : Nat) : Int) by omega)]
      omega
    · rw [ud_ne e]
      rcases Decidable.em (0 ≤ i ∧ i < m) with q | q
      · rw [if_pos q, if_pos (show 0 ≤ i ∧ i < ((m + 1 : Nat) : Int) by omega)]; omega
      · rw [if_neg q, if_neg (show ¬ (0 ≤ i ∧ i < ((m + 1 : Nat) : Int)) by omega)]; omega
theorem cnt_sw {i j : Int} {m : Nat} (hi : 0 ≤ i ∧ i < m) (hj : 0 ≤ j ∧ j < m) : cntO (swO o i j) c m = cntO o c m := by
  unfold swO
  rw [cnt_ud, cnt_ud, if_pos hi, if_pos hj]
  rcases Decidable.em (j = i) with e | e
  · subst e; rw [ud_eq]; omega
  · rw [ud_ne e]; omega
theorem cnt_mono : ∀ (m k : Nat), m ≤ k → cntO o c m ≤ cntO o c k := by
  intro m k h
  induction k with
  | zero => rw [show m = 0 by omega]; exact Int.le_refl _
  | succ k ih =>
    rcases Nat.lt_or_ge k m with e | e
    · rw [show m = k + 1 by omega]; exact Int.le_refl _
    · have := ih e
      have e2 : cntO o c (k + 1) = cntO o c k + (if o k = c then 1 else 0) := rfl
      rw [e2]
      split <;> omega
theorem cntO_b : ∀ m : Nat, 0 ≤ cntO o c m ∧ cntO o c m ≤ m := by
  intro m
  induction m with
  | zero => exact ⟨Int.le_refl _, Int.le_refl _⟩
  | succ m ih => unfold cntO; split <;> omega
/-- a prefix holds less than the whole where its client stands next -/
theorem cnt_lt {i : Nat} {m : Nat} (hi : i < m) (ho : o i = c) : cntO o c i + 1 ≤ cntO o c m := by
  have := cnt_mono (o := o) (c := c) (i + 1) m hi
  have e2 : cntO o c (i + 1) = cntO o c i + (if o i = c then 1 else 0) := rfl
  rw [if_pos ho] at e2
  omega
theorem rev_keep : ∀ (m : Nat) (o : Int → Int) (i j : Int), (∀ k, k < i ∨ j < k → revL m o i j k = o k) := by
  intro m
  induction m with
  | zero => intro o i j k _; rfl
  | succ m ih =>
    intro o i j k hk
    unfold revL
    split
    · rw [ih _ _ _ k (by omega), sw_at, if_neg (by omega), if_neg (by omega)]
    · rfl
theorem rev_in : ∀ (m : Nat) (o : Int → Int) (i j : Int), INo cl o n → 0 ≤ i → j < n → INo cl (revL m o i j) n := by
  intro m
  induction m with
  | zero => intro o i j h _ _; exact h
  | succ m ih =>
    intro o i j h hi hj
    unfold revL
    split
    · exact ih _ _ _ (sw_in h ⟨hi, by omega⟩ ⟨by omega, hj⟩) (by omega) (by omega)
    · exact h
theorem rev_cnt {k : Nat} : ∀ (m : Nat) (o : Int → Int) (i j : Int), 0 ≤ i → j < k → cntO (revL m o i j) c k = cntO o c k := by
  intro m
  induction m with
  | zero => intro o i j _ _; rfl
  | succ m ih =>
    intro o i j hi hj
    unfold revL
    split
    · rw [ih _ _ _ (by omega) (by omega), cnt_sw ⟨hi, by omega⟩ ⟨by omega, hj⟩]
    · rfl
theorem nx_in (hn : 1 ≤ n) (h0 : 0 ≤ risO o n) (h : INo cl o n) : INo cl (nxO o n) n := by
  have r := risO_b (o := o) hn
  have q := higO_b (o := o) hn h0
  exact rev_in 8 _ _ _ (sw_in h (by omega) (by omega)) (by omega) (by omega)
theorem nx_cnt (hn : 1 ≤ n) (h0 : 0 ≤ risO o n) : cntO (nxO o n) c n.toNat = cntO o c n.toNat := by
  have r := risO_b (o := o) hn
  have q := higO_b (o := o) hn h0
  unfold nxO
  rw [rev_cnt 8 _ _ _ (by omega) (by omega), cnt_sw (by omega) (by omega)]
theorem wvO_lt {o' : Int → Int} {r : Nat} (hs : ∀ i : Int, 0 ≤ i ∧ i < r → o' i = o i) (hr : p (o r) < p (o' r)) : ∀ m : Nat, r < m → (∀ i : Int, 0 ≤ i ∧ i < m → (0 ≤ p (o i) ∧ p (o i) ≤ 2) ∧ 0 ≤ p (o' i)) → wvO p o m + 1 ≤ wvO p o' m := by
  have same : ∀ m : Nat, m ≤ r → wvO p o' m = wvO p o m := by
    intro m
    induction m with
    | zero => intro _; rfl
    | succ m ih => intro h; unfold wvO; rw [ih (by omega), hs m (by omega)]
  intro m
  induction m with
  | zero => intro h _; exact absurd h (by omega)
  | succ m ih =>
    intro h hb
    unfold wvO
    rcases Nat.lt_or_ge r m with e | e
    · have := ih e (fun i hi => hb i (by omega))
      have b := hb m (by omega)
      omega
    · have e2 : m = r := by omega
      subst e2
      rw [same m (Nat.le_refl _)]
      omega
theorem wvO_b : ∀ m : Nat, (∀ i : Int, 0 ≤ i ∧ i < m → 0 ≤ p (o i) ∧ p (o i) ≤ 2) → 0 ≤ wvO p o m ∧ wvO p o m < 3 ^ m := by
  intro m
  induction m with
  | zero => intro _; exact ⟨Int.le_refl 0, by show (0 : Int) < 3 ^ 0; decide⟩
  | succ m ih =>
    intro hb
    have := ih (fun i hi => hb i (by omega))
    have b := hb m (by omega)
    unfold wvO
    rw [Int.pow_succ]
    omega
theorem p3 : ∀ n : Fin 9, (3 : Int) ^ n.val ≤ 6561 := by decide +kernel
theorem wvO_8 {m : Nat} (hm : m ≤ 8) (hb : ∀ i : Int, 0 ≤ i ∧ i < m → 0 ≤ p (o i) ∧ p (o i) ≤ 2) : 0 ≤ wvO p o m ∧ wvO p o m ≤ 6560 := by
  have a := wvO_b m hb
  have b := p3 ⟨m, by omega⟩
  dsimp only at b
  omega
theorem rk_b (h : WB cl) (hc : 0 ≤ c ∧ c < 6) (h1 : cl c = 1) (h3 : cnt cl ≤ 3) : 0 ≤ rkO cl c ∧ rkO cl c ≤ 2 := by
  have q := h.b.x
  unfold cnt at h3
  unfold rkO
  rcases (by omega : c = 0 ∨ c = 1 ∨ c = 2 ∨ c = 3 ∨ c = 4 ∨ c = 5) with rfl | rfl | rfl | rfl | rfl | rfl <;> simp only [Int.reduceLT, if_true, if_false] <;> omega
theorem rk_lt {d : Int} (h : WB cl) (hc : 0 ≤ c ∧ c < 6) (hd : 0 ≤ d ∧ d < 6) (h1 : cl c = 1) (hl : c < d) : rkO cl c < rkO cl d := by
  have q := h.b.x
  unfold rkO
  rcases (by omega : c = 0 ∨ c = 1 ∨ c = 2 ∨ c = 3 ∨ c = 4 ∨ c = 5) with rfl | rfl | rfl | rfl | rfl | rfl <;> rcases (by omega : d = 0 ∨ d = 1 ∨ d = 2 ∨ d = 3 ∨ d = 4 ∨ d = 5) with rfl | rfl | rfl | rfl | rfl | rfl <;> first | (exfalso; omega) | (simp only [Int.reduceLT, if_true, if_false]; omega)
theorem nx_lt (hw : WB cl) (h3 : cnt cl ≤ 3) (hn : 1 ≤ n) (h0 : 0 ≤ risO o n) (h : INo cl o n) : wvO (rkO cl) o n.toNat + 1 ≤ wvO (rkO cl) (nxO o n) n.toNat := by
  have r := risO_b (o := o) hn
  have q := higO_b (o := o) hn h0
  have hI := nx_in hn h0 h
  have er : ((risO o n).toNat : Int) = risO o n := by omega
  have a := h (risO o n) (by omega)
  have d := h (higO o n) (by omega)
  have e0 : nxO o n (risO o n) = o (higO o n) := by
    unfold nxO
    rw [rev_keep 8 _ _ _ _ (by omega), sw_at, if_neg (by omega), if_pos rfl]
  refine wvO_lt (r := (risO o n).toNat) (fun i hi => ?_) ?_ n.toNat (by omega) (fun i hi => ?_)
  · unfold nxO
    rw [rev_keep 8 _ _ _ _ (by omega), sw_at, if_neg (by omega), if_neg (by omega)]
  · rw [er, e0]
    exact rk_lt hw a.1 d.1 a.2 q.2
  · have u := h i (by omega)
    have v := hI i (by omega)
    exact ⟨rk_b hw u.1 u.2 h3, (rk_b hw v.1 v.2 h3).1⟩
theorem wvO_ok (hw : WB cl) (h3 : cnt cl ≤ 3) (hn : 1 ≤ n ∧ n ≤ 8) (h : INo cl o n) : 0 ≤ wvO (rkO cl) o n.toNat ∧ wvO (rkO cl) o n.toNat ≤ 6560 :=
  wvO_8 (by omega) (fun i hi => by have u := h i (by omega); exact rk_b hw u.1 u.2 h3)
end OR_
