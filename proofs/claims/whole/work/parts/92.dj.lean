/-! what is due: alike -/
def pC (n : Int) : Int := 340 + n % 60 * 12 + xv 4 (n / 60)
def cC (f : Int → Int) (n : Int) : Int := (f (pC n) * 4 + n / 60) * 60 + n % 60
/-- z is the least code above u of those in V, or -2 -/
def IC (f : Int → Int) (u : Int) (V : Int → Prop) (z : Int) : Prop := (z = -2 ∧ ∀ n, 0 ≤ n ∧ n < 240 → V n → f 0 < f (pC n) → cC f n ≤ u) ∨ ((∃ n, (0 ≤ n ∧ n < 240) ∧ f 0 < f (pC n) ∧ u < cC f n ∧ z = cC f n) ∧ ∀ n, 0 ≤ n ∧ n < 240 → V n → f 0 < f (pC n) → u < cC f n → z ≤ cC f n)
section DJ
variable {f g : Int → Int} {B : Int}
theorem IC.mono {u z : Int} {V V' : Int → Prop} (h : IC f u V z) (hv : ∀ n, 0 ≤ n ∧ n < 240 → V' n → V n) : IC f u V' z := by
  rcases h with ⟨h1, h2⟩ | ⟨h1, h2⟩
  · exact Or.inl ⟨h1, fun n q1 q2 q3 => h2 n q1 (hv n q1 q2) q3⟩
  · exact Or.inr ⟨h1, fun n q1 q2 q3 q4 => h2 n q1 (hv n q1 q2) q3 q4⟩
theorem ic_keep {u z N : Int} {V V' : Int → Prop} (h : IC f u V z) (hv : ∀ n, 0 ≤ n ∧ n < 240 → V' n → V n ∨ n = N) (hk : f 0 < f (pC N) → u < cC f N → z ≠ -2 ∧ z ≤ cC f N) : IC f u V' z := by
  rcases h with ⟨h1, h2⟩ | ⟨h1, h2⟩
  · refine Or.inl ⟨h1, fun n q1 q2 q3 => ?_⟩
    rcases hv n q1 q2 with e | e
    · exact h2 n q1 e q3
    · rcases Decidable.em (cC f n ≤ u) with c | c
      · exact c
      · rw [e] at q3 c
        exact absurd h1 (hk q3 (by omega)).1
  · refine Or.inr ⟨h1, fun n q1 q2 q3 q4 => ?_⟩
    rcases hv n q1 q2 with e | e
    · exact h2 n q1 e q3 q4
    · rw [e] at q3 q4 ⊢
      exact (hk q3 q4).2
theorem ic_new {u z N : Int} {V V' : Int → Prop} (h : IC f u V z) (hv : ∀ n, 0 ≤ n ∧ n < 240 → V' n → V n ∨ n = N) (hN : 0 ≤ N ∧ N < 240) (h1 : f 0 < f (pC N)) (h2 : u < cC f N) (h3 : z = -2 ∨ cC f N < z) (hu : -1 ≤ u) : IC f u V' (cC f N) := by
  refine Or.inr ⟨⟨N, hN, h1, h2, rfl⟩, fun n q1 q2 q3 q4 => ?_⟩
  rcases hv n q1 q2 with e | e
  · rcases h with ⟨k1, k2⟩ | ⟨⟨n', k1, -, k3, k4⟩, k2⟩
    · have := k2 n q1 e q3
      omega
    · have := k2 n q1 e q3 q4
      omega
  · rw [e]; exact Int.le_refl _
theorem ic_di {u s : Int} (hs : 0 ≤ s ∧ s < 60) (hu : -1 ≤ u) : ∀ (m : Nat) (k z : Int), k + m = 4 → 0 ≤ k → IC f u (fun n => n % 60 < s ∨ n % 60 = s ∧ n / 60 < k) z → IC f u (fun n => n % 60 < s + 1) (wDiL f u s m k z) := by
  intro m
  induction m with
  | zero => intro k z h1 h2 h; exact h.mono (fun n q1 q2 => by show n % 60 < s ∨ n % 60 = s ∧ n / 60 < k; have q3 : n % 60 < s + 1 := q2; omega)
  | succ m ih =>
    intro k z h1 h2 h
    have e1 : pC (60 * k + s) = 340 + s * 12 + xv 4 k := by
      unfold pC
      rw [show (60 * k + s) % 60 = s by omega, show (60 * k + s) / 60 = k by omega]
    have e2 : cC f (60 * k + s) = (f (340 + s * 12 + xv 4 k) * 4 + k) * 60 + s := by
      unfold cC
      rw [e1, show (60 * k + s) % 60 = s by omega, show (60 * k + s) / 60 = k by omega]
    have hv : ∀ n, 0 ≤ n ∧ n < 240 → (n % 60 < s ∨ n % 60 = s ∧ n / 60 < k + 1) → (n % 60 < s ∨ n % 60 = s ∧ n / 60 < k) ∨ n = 60 * k + s := fun n q1 q2 => by omega
    have kp := fun (hk : f 0 < f (pC (60 * k + s)) → u < cC f (60 * k + s) → z ≠ -2 ∧ z ≤ cC f (60 * k + s)) => ih (k + 1) z (by omega) (by omega) (ic_keep h hv hk)
    have nw := fun a b c => ih (k + 1) _ (by omega) (by omega) (ic_new (N := 60 * k + s) h hv (by omega) a b c hu)
    rw [e1, e2] at kp nw
    unfold wDiL
    split
    · rename_i c1
      split
      · rename_i c2
        exact kp (fun _ q => by omega)
      · rename_i c2
        split
        · rename_i c3
          exact nw c1 (by omega) (Or.inl c3)
        · rename_i c3
          split
          · rename_i c4
            exact kp (fun _ _ => ⟨c3, c4⟩)
          · rename_i c4
            exact nw c1 (by omega) (Or.inr (by omega))
    · rename_i c1
      exact kp (fun q _ => absurd q c1)
theorem ic_do {u : Int} (hu : -1 ≤ u) : ∀ (m : Nat) (k z : Int), k + m = 60 → 0 ≤ k → IC f u (fun n => n % 60 < k) z → IC f u (fun _ => True) (wDoL f u m k z) := by
  intro m
  induction m with
  | zero => intro k z h1 h2 h; exact h.mono (fun n q1 _ => by show n % 60 < k; omega)
  | succ m ih =>
    intro k z h1 h2 h
    unfold wDoL
    exact ih (k + 1) _ (by omega) (by omega) (ic_di (by omega) hu 4 0 z (by omega) (by omega) (h.mono (fun n q1 q2 => by show n % 60 < k; have q3 : n % 60 < k ∨ n % 60 = k ∧ n / 60 < 0 := q2; omega)))
theorem ic_db {u : Int} (hu : -1 ≤ u) : IC f u (fun _ => True) (wDb f u) := ic_do hu 60 0 (-2) (by omega) (by omega) (Or.inl ⟨rfl, fun n q1 q2 _ => by have q3 : n % 60 < 0 := q2; omega⟩)
/-- what stands at one spot -/
theorem du_at {n : Int} (h : Sm0 f g) (hn : 0 ≤ n ∧ n < 240) : EA (g 0) (f (pC n)) (g (pR n)) := by
  obtain ⟨-, -, -, -, -, s5, -, s7, -, -, s10, s11⟩ := h.S (n % 60 / 10) (n % 10) (by omega) (by omega)
  have e : n % 60 / 10 * 10 + n % 10 = n % 60 := by omega
  unfold pC pR sR
  rw [xv4 (i := n / 60) (by omega)]
  unfold sA at s5 s7 s10 s11
  rw [e] at s5 s7 s10 s11
  rcases (by omega : n / 60 = 0 ∨ n / 60 = 1 ∨ n / 60 = 2 ∨ n / 60 = 3) with c | c | c | c <;> rw [c]
  · exact s5
  · exact s7
  · exact s10
  · exact s11
theorem du_v {n : Int} (h : Sm0 f g) (hI : IM B g) (hn : 0 ≤ n ∧ n < 240) : (f 0 < f (pC n) ↔ g 0 < g (pR n)) ∧ (g 0 < g (pR n) → f (pC n) = g (pR n) ∧ 0 ≤ g (pR n)) := by
  have q := du_at h hn
  have A0 := h.A
  unfold SmA at A0
  have n0 := hI.n0 (j := 0) (by omega)
  unfold EA at q
  omega
def DP (f g : Int → Int) (u v : Int) : Prop := ∃ n, (0 ≤ n ∧ n < 240) ∧ g 0 < g (pR n) ∧ u = cC f n ∧ v = cR g n
def DD (f g : Int → Int) (u v : Int) : Prop := (u = -1 ∧ v = -1) ∨ DP f g u v
theorem du_ord {n m : Int} (h : Sm0 f g) (hI : IM B g) (hn : 0 ≤ n ∧ n < 240) (hm : 0 ≤ m ∧ m < 240) (vn : g 0 < g (pR n)) (vm : g 0 < g (pR m)) : (cC f n < cC f m ↔ cR g n < cR g m) ∧ 0 ≤ cC f n ∧ 0 ≤ cR g n := by
  have q1 := (du_v h hI hn).2 vn
  have q2 := (du_v h hI hm).2 vm
  unfold cC cR
  rw [q1.1, q2.1]
  have e1 : n % 10 = n % 60 % 10 := by omega
  have e2 : m % 10 = m % 60 % 10 := by omega
  rw [e1, e2]
  omega
theorem du_round {u u' z z' : Int} (h : Sm0 f g) (hI : IM B g) (hD : DD f g u u') (h1 : IC f u (fun _ => True) z) (h2 : IR g u' 240 z') : (z = -2 ∧ z' = -1) ∨ (0 ≤ z ∧ 0 ≤ z' ∧ DP f g z z') := by
  have hab : ∀ n, 0 ≤ n ∧ n < 240 → g 0 < g (pR n) → (u < cC f n ↔ u' < cR g n) := fun n hn vn => by
    rcases hD with ⟨d1, d2⟩ | ⟨m, d1, d2, d3, d4⟩
    · have q := du_ord h hI hn hn vn vn
      omega
    · have q := du_ord h hI d1 hn d2 vn
      rw [d3, d4]
      exact q.1
  rcases h1 with ⟨a1, a2⟩ | ⟨⟨n, a1, a2, a3, a4⟩, a5⟩
  · rcases h2.2 with ⟨b1, b2⟩ | ⟨⟨m, b1, b2, b3, b4⟩, b5⟩
    · exact Or.inl ⟨a1, b1⟩
    · have q := a2 m b1 trivial ((du_v h hI b1).1.mpr b2)
      have q2 := hab m b1 b2
      omega
  · have vn := (du_v h hI a1).1.mp a2
    have qn := hab n a1 vn
    rcases h2.2 with ⟨b1, b2⟩ | ⟨⟨m, b1, b2, b3, b4⟩, b5⟩
    · have q := b2 n a1.1 a1.2 vn
      omega
    · have qm := hab m b1 b2
      have k1 := a5 m b1 trivial ((du_v h hI b1).1.mpr b2) (by omega)
      have k2 := b5 n a1.1 a1.2 vn (by omega)
      have o1 := du_ord h hI a1 b1 vn b2
      have o2 := du_ord h hI b1 a1 b2 vn
      refine Or.inr ⟨by omega, by omega, n, a1, vn, a4, by omega⟩
theorem du_rounds {j : Int} (h : Sm0 f g) (hI : IM B g) (hj : j < 240) : ∀ (r m : Nat) (k z z' v : Int), k + r = j + 1 → 240 ≤ k + m → 0 ≤ k → DD f g z z' → (r = 0 → DP f g z z') → RdE g r z' v → (wDcL f j m k z = -2 ∧ v = -1) ∨ DP f g (wDcL f j m k z) v := by
  intro r
  induction r with
  | zero =>
    intro m k z z' v h1 h2 h3 h4 h5 h6
    have e : v = z' := h6
    have e2 : wDcL f j m k z = z := by
      cases m with
      | zero => unfold wDcL; rw [if_pos (by omega), if_neg (by omega)]
      | succ m => unfold wDcL; rw [if_pos (by omega), if_neg (by omega)]
    rw [e, e2]
    exact Or.inr (h5 rfl)
  | succ r ih =>
    intro m k z z' v h1 h2 h3 h4 h5 h6
    obtain ⟨y, k1, k2⟩ := h6
    have hz : -1 ≤ z := by
      rcases h4 with ⟨d1, d2⟩ | ⟨n, d1, d2, d3, d4⟩
      · omega
      · have q := du_ord h hI d1 d1 d2 d2
        omega
    have w := du_round h hI h4 (ic_db hz) k1
    cases m with
    | zero => omega
    | succ m =>
      unfold wDcL
      rw [if_neg (by omega), if_neg (by omega)]
      rcases w with ⟨w1, w2⟩ | ⟨w1, w2, w3⟩
      · rw [if_neg (by omega)]
        rcases k2 with ⟨_, k3⟩ | ⟨k3, _⟩
        · exact Or.inl ⟨rfl, k3⟩
        · omega
      · rw [if_pos w1]
        rcases k2 with ⟨k3, _⟩ | ⟨_, k3⟩
        · omega
        · exact ih m (k + 1) _ y v (by omega) (by omega) (by omega) (Or.inr w3) (fun _ => w3) k3
theorem wDcL_hi {j : Int} (hj : 240 ≤ j) : ∀ (m : Nat) (k z : Int), wDcL f j m k z = -2 := by
  intro m
  induction m with
  | zero => intro k z; unfold wDcL; (repeat' split) <;> first | rfl | omega
  | succ m ih => intro k z; unfold wDcL; (repeat' split) <;> first | rfl | omega | exact ih _ _
theorem dp_val {z v : Int} (h : Sm0 f g) (hI : IM B g) (hD : DP f g z v) : 0 ≤ z ∧ 0 ≤ v ∧ z / 240 = v / 10000 ∧ z / 60 % 4 = v / 1000 % 10 ∧ z % 60 / 10 * 100 + z % 60 % 10 = v % 1000 ∧ g 0 < v / 10000 ∧ v / 10000 ≤ B := by
  obtain ⟨n, d1, d2, d3, d4⟩ := hD
  have q := (du_v h hI d1).2 d2
  have b := hI.b (pR n)
  rw [d3, d4]
  unfold cC cR
  rw [q.1]
  have e1 : n % 10 = n % 60 % 10 := by omega
  rw [e1]
  have hs : 0 ≤ n % 60 ∧ n % 60 < 60 := by omega
  have ht : 0 ≤ n / 60 ∧ n / 60 < 4 := by omega
  have he := q.2
  generalize g (pR n) = e at *
  generalize n % 60 = s at *
  generalize n / 60 = t at *
  have t1 : ((e * 4 + t) * 60 + s) / 60 = e * 4 + t := by omega
  have t2 : ((e * 4 + t) * 60 + s) / 240 = e := by omega
  have t3 : ((e * 4 + t) * 60 + s) % 60 = s := by omega
  have t4 : (e * 10000 + t * 1000 + 100 * (s / 10) + s % 10) / 1000 = e * 10 + t := by omega
  have t5 : (e * 10000 + t * 1000 + 100 * (s / 10) + s % 10) / 10000 = e := by omega
  have t6 : (e * 10000 + t * 1000 + 100 * (s / 10) + s % 10) % 1000 = 100 * (s / 10) + s % 10 := by omega
  rw [t1, t2, t3, t4, t5, t6]
  clear t1 t2 t3 t4 t5 t6
  have t7 : (e * 4 + t) % 4 = t := by omega
  have t8 : (e * 10 + t) % 10 = t := by omega
  rw [t7, t8]
  exact ⟨by omega, by omega, rfl, rfl, by omega, by omega, by omega⟩
theorem q_due {k i v : Int} (h : Sm0 f g) (hI : IM B g) : (¬ (0 ≤ k ∧ 0 ≤ i ∧ i ≤ 2) → cDue f k i = -1) ∧ ((0 ≤ k ∧ 0 ≤ i ∧ i ≤ 2) → 240 ≤ k → cDue f k i = -2) ∧ ((0 ≤ k ∧ 0 ≤ i ∧ i ≤ 2) → k < 240 → RdE g (k + 1).toNat (-1) v → cDue f k i = rDueV v i) := by
  unfold cDue
  refine ⟨fun c => ?_, fun c c2 => ?_, fun c c2 c3 => ?_⟩
  · (repeat' split) <;> omega
  · rw [if_neg (by omega), if_pos (by omega), show wDc f k = -2 from wDcL_hi c2 240 0 (-1), if_neg (by omega)]
  · rw [if_neg (by omega), if_pos (by omega)]
    have w := du_rounds h hI c2 (k + 1).toNat 240 0 (-1) (-1) v (by omega) (by omega) (by omega) (Or.inl ⟨rfl, rfl⟩) (fun e => by omega) c3
    have e : wDc f k = wDcL f k 240 0 (-1) := rfl
    rw [← e] at w
    unfold rDueV
    rcases w with ⟨w1, w2⟩ | w
    · rw [if_neg (by omega), if_pos (by omega)]
    · have q := dp_val h hI w
      rw [if_pos q.1, if_neg (show ¬ v < 0 by omega), q.2.2.1, q.2.2.2.1, q.2.2.2.2.1]
theorem A_next {v : Int} (h : AK B f g) (hB : 1000 ≤ B ∧ B ≤ 8000000) (hv : RdE g 1 (-1) v) : (cNext f).1 = (rNx g v).1 ∧ AK (B + 1000) (cNext f).2 (rNx g v).2 ∧ vOK (rNx g v).1 := by
  obtain ⟨hS, hI, hP, hZ⟩ := h
  obtain ⟨y, k1, k2⟩ := hv
  have w := du_round hS.1 hI (Or.inl ⟨rfl, rfl⟩) (ic_db (by omega)) k1
  have a0 := hS.1.A
  unfold SmA at a0
  have n0 := hI.n0 (j := 0) (by omega)
  unfold cNext wNext rNx
  rcases w with ⟨w1, w2⟩ | ⟨w1, w2, w3⟩
  · rw [if_neg (by omega)]
    rcases k2 with ⟨_, k3⟩ | ⟨k3, _⟩
    · rw [if_pos (by omega)]
      exact ⟨rfl, AK.up ⟨hS, hI, hP, hZ⟩ (by omega), vk (by omega)⟩
    · omega
  · rw [if_pos w1]
    rcases k2 with ⟨k3, _⟩ | ⟨_, k3⟩
    · omega
    · have k4 : v = y := k3
      have q := dp_val hS.1 hI w3
      rw [if_neg (by omega), k4, a0.1, show g 0 + (wDb f (-1) / 240 - g 0) = y / 10000 by omega]
      refine ⟨rfl, ⟨⟨sm_now (by omega) hS.1 hI, ?_, ?_⟩, (hI.up (show B ≤ B + 1000 by omega)).wr (cm_ct (by omega) (by omega)), pm_of hP (fun j hj => ud_ne (by omega)), zm_ud hZ (by omega)⟩, vk (by show 0 ≤ y / 10000 ∧ y / 10000 < 2147483648 ∨ _; omega)⟩
      · show ud f 0 (y / 10000) 8 = ud g 0 (y / 10000) 8
        rw [ud_ne (by omega), ud_ne (by omega)]; exact hS.2.1
      · show ud f 0 (y / 10000) 14 = ud g 0 (y / 10000) 20
        rw [ud_ne (by omega), ud_ne (by omega)]; exact hS.2.2
end DJ
