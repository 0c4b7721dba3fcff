/-! what there is: the two faces answer alike -/
section QE
variable {f g : Int → Int} {B : Int}
theorem q_setting (h : Sm f g) (i : Int) : cSetting f i = rSetting g i := by
  obtain ⟨h0, h8, h14⟩ := h
  unfold cSetting rSetting
  rcases Decidable.em (0 ≤ i ∧ i < 7) with c | c
  · rw [if_pos c, if_pos (by omega)]
    rcases Decidable.em (i = 5) with e | e
    · subst e; exact h8
    · exact h0.T i (by omega)
  · rw [if_neg c, if_neg (by omega)]
theorem q_led (h : Sm f g) (i : Int) : cLed f i = rLed g i := by
  obtain ⟨h0, h8, h14⟩ := h
  unfold cLed rLed
  rcases Decidable.em (0 ≤ i ∧ i < 10) with c | c
  · rw [if_pos c, if_pos (by omega)]
    rcases Decidable.em (i = 4) with e | e
    · subst e; exact h14
    · exact h0.L i (by omega)
  · rw [if_neg c, if_neg (by omega)]
theorem q_entry (h : Sm f g) (a k i : Int) : cEntry f a k i = rEntry g a k i := by
  obtain ⟨h0, h8, h14⟩ := h
  unfold cEntry rEntry
  rcases Decidable.em (0 ≤ a ∧ a < 6) with ca | ca
  · rw [if_pos ca, if_pos (show 0 ≤ a ∧ a ≤ 5 by omega)]
    rcases Decidable.em (0 ≤ k ∧ k < 10) with ck | ck
    · rw [if_pos ck, if_pos (show 0 ≤ k ∧ k ≤ 9 by omega)]
      rcases Decidable.em (0 ≤ i ∧ i < 6) with ci | ci
      · rw [if_pos ci, if_pos (show 0 ≤ i ∧ i ≤ 5 by omega)]
        have S := h0.S a k ca ck
        have A0 := h0.A
        unfold SmA at A0
        unfold EA at S
        rcases Decidable.em (g 0 < g (eA a k)) with c | c
        · rw [if_pos (show f 0 < f (sA a k + 5) by omega), if_pos c]
          rcases (by omega : i = 0 ∨ i = 1 ∨ i = 2 ∨ i = 3 ∨ i = 4 ∨ i = 5) with rfl | rfl | rfl | rfl | rfl | rfl
          · rw [if_neg (by omega)]; exact S.1.trans (congrArg g (by omega))
          · rw [if_neg (by omega)]; exact S.2.1.trans (congrArg g (by omega))
          · rw [if_neg (by omega)]; exact S.2.2.1.trans (congrArg g (by omega))
          · rw [if_neg (by omega)]; exact S.2.2.2.1.trans (congrArg g (by omega))
          · rw [if_neg (by omega)]; exact S.2.2.2.2.1.trans (congrArg g (by omega))
          · rw [if_pos rfl]; omega
        · rw [if_neg (show ¬ f 0 < f (sA a k + 5) by omega), if_neg c]
      · rw [if_neg ci, if_neg (show ¬ (0 ≤ i ∧ i ≤ 5) by omega)]
    · rw [if_neg ck, if_neg (show ¬ (0 ≤ k ∧ k ≤ 9) by omega)]
  · rw [if_neg ca, if_neg (show ¬ (0 ≤ a ∧ a ≤ 5) by omega)]
theorem q_beside (h : Sm f g) (a k i : Int) : cBeside f a k i = rBeside g a k i := by
  obtain ⟨h0, h8, h14⟩ := h
  unfold cBeside rBeside
  rcases Decidable.em (0 ≤ a ∧ a < 6) with ca | ca
  · rw [if_pos ca, if_pos (show 0 ≤ a ∧ a ≤ 5 by omega)]
    rcases Decidable.em (0 ≤ k ∧ k < 10) with ck | ck
    · rw [if_pos ck, if_pos (show 0 ≤ k ∧ k ≤ 9 by omega)]
      rcases Decidable.em (0 ≤ i ∧ i < 6) with ci | ci
      · rw [if_pos ci, if_pos (show 0 ≤ i ∧ i ≤ 5 by omega)]
        unfold wBp
        have S := h0.S a k ca ck
        have A0 := h0.A
        unfold SmA at A0
        unfold EA at S
        rcases (by omega : i = 0 ∨ i = 1 ∨ i = 2 ∨ i = 3 ∨ i = 4 ∨ i = 5) with rfl | rfl | rfl | rfl | rfl | rfl
        · have e : f (sA a k + 6 + 0) = f (sA a k + 6) := congrArg f (by omega)
          rw [show xv 5 0 = 7 from rfl, if_neg (show ¬ (2 : Int) ≤ 0 by omega), if_pos (rfl : (0 : Int) = 0), e]
          split <;> split <;> omega
        · have e : f (sA a k + 6 + 1) = f (sA a k + 7) := congrArg f (by omega)
          rw [show xv 5 1 = 7 from rfl, if_neg (show ¬ (2 : Int) ≤ 1 by omega), if_neg (show ¬ (1 : Int) = 0 by omega), if_pos (rfl : (1 : Int) = 1), e]
          split <;> split <;> omega
        · have e : f (sA a k + 6 + 2) = f (sA a k + 8) := congrArg f (by omega)
          rw [show xv 5 2 = 10 from rfl, if_pos (show (2 : Int) ≤ 2 by omega), if_neg (show ¬ (5 : Int) ≤ 2 by omega), if_neg (show ¬ (2 : Int) = 0 by omega), if_neg (show ¬ (2 : Int) = 1 by omega), if_pos (rfl : (2 : Int) = 2), e]
          split <;> split <;> omega
        · have e : f (sA a k + 6 + 3) = f (sA a k + 9) := congrArg f (by omega)
          rw [show xv 5 3 = 10 from rfl, if_pos (show (2 : Int) ≤ 3 by omega), if_neg (show ¬ (5 : Int) ≤ 3 by omega), if_neg (show ¬ (3 : Int) = 0 by omega), if_neg (show ¬ (3 : Int) = 1 by omega), if_neg (show ¬ (3 : Int) = 2 by omega), if_pos (rfl : (3 : Int) = 3), e]
          split <;> split <;> omega
        · have e : f (sA a k + 6 + 4) = f (sA a k + 10) := congrArg f (by omega)
          rw [show xv 5 4 = 10 from rfl, if_pos (show (2 : Int) ≤ 4 by omega), if_neg (show ¬ (5 : Int) ≤ 4 by omega), if_neg (show ¬ (4 : Int) = 0 by omega), if_neg (show ¬ (4 : Int) = 1 by omega), if_neg (show ¬ (4 : Int) = 2 by omega), if_neg (show ¬ (4 : Int) = 3 by omega), e]
          split <;> split <;> omega
        · have e : f (sA a k + 6 + 5) = f (sA a k + 11) := congrArg f (by omega)
          rw [show xv 5 5 = 11 from rfl, if_pos (show (2 : Int) ≤ 5 by omega), if_pos (show (5 : Int) ≤ 5 by omega), if_neg (show ¬ (5 : Int) = 0 by omega), if_neg (show ¬ (5 : Int) = 1 by omega), if_neg (show ¬ (5 : Int) = 2 by omega), if_neg (show ¬ (5 : Int) = 3 by omega), e]
          split <;> split <;> omega
      · rw [if_neg ci, if_neg (show ¬ (0 ≤ i ∧ i ≤ 5) by omega)]
    · rw [if_neg ck, if_neg (show ¬ (0 ≤ k ∧ k ≤ 9) by omega)]
  · rw [if_neg ca, if_neg (show ¬ (0 ≤ a ∧ a ≤ 5) by omega)]
theorem q_client (h : Sm f g) (hI : IM B g) (c i : Int) : cClient f c i = rClient g c i := by
  obtain ⟨h0, h8, h14⟩ := h
  unfold cClient rClient
  rcases Decidable.em (0 ≤ c ∧ c < 6) with cc | cc
  · rw [if_pos cc, if_pos (show 0 ≤ c ∧ c ≤ 5 by omega)]
    rcases Decidable.em (0 ≤ i ∧ i < 7) with ci | ci
    · rw [if_pos ci, if_pos (show 0 ≤ i ∧ i ≤ 6 by omega)]
      unfold wCp
      have H := h0.H c cc
      have C := hI.cl cc
      rcases (by omega : i = 0 ∨ i = 1 ∨ i = 2 ∨ i = 3 ∨ i = 4 ∨ i = 5 ∨ i = 6) with rfl | rfl | rfl | rfl | rfl | rfl | rfl
      · rw [if_pos rfl, if_pos (by omega), if_pos (by omega), if_pos (by omega)]; omega
      all_goals
        rw [if_neg (by omega), if_neg (show ¬ _ ≤ (0 : Int) by omega)]
        (repeat' split) <;> omega
    · rw [if_neg ci, if_neg (show ¬ (0 ≤ i ∧ i ≤ 6) by omega)]
  · rw [if_neg cc, if_neg (show ¬ (0 ≤ c ∧ c ≤ 5) by omega)]
theorem q_store (h : Sm f g) (hI : IM B g) (r k i : Int) : cStore f r k i = rStore g r k i := by
  obtain ⟨h0, h8, h14⟩ := h
  unfold cStore rStore
  rcases Decidable.em (0 ≤ r ∧ r < 3) with cr | cr
  · rw [if_pos cr, if_pos (show 0 ≤ r ∧ r ≤ 2 by omega)]
    rcases Decidable.em (0 ≤ k ∧ k < 10) with ck | ck
    · rw [if_pos ck, if_pos (show 0 ≤ k ∧ k ≤ 9 by omega)]
      rcases Decidable.em (0 ≤ i ∧ i < 3) with ci | ci
      · rw [if_pos ci, if_pos (show 0 ≤ i ∧ i ≤ 2 by omega), wSv_eq h0 cr ck, wVal_eq h0 (svO_b2 hI cr), h0.M r k cr ck]
      · rw [if_neg ci, if_neg (show ¬ (0 ≤ i ∧ i ≤ 2) by omega)]
    · rw [if_neg ck, if_neg (show ¬ (0 ≤ k ∧ k ≤ 9) by omega)]
  · rw [if_neg cr, if_neg (show ¬ (0 ≤ r ∧ r ≤ 2) by omega)]
theorem q_region (h : Sm f g) (r i : Int) : cRegion f r i = rRegion g r i := by
  obtain ⟨h0, h8, h14⟩ := h
  unfold cRegion rRegion
  rcases Decidable.em (0 ≤ r ∧ r < 3) with cr | cr
  · rw [if_pos cr, if_pos (show 0 ≤ r ∧ r ≤ 2 by omega)]
    rcases Decidable.em (0 ≤ i ∧ i < 3) with ci | ci
    · have A0 := h0.A
      unfold SmA at A0
      rw [if_pos ci, if_pos (show 0 ≤ i ∧ i ≤ 2 by omega), h0.P r cr, h0.O r cr, A0.2.1]
    · rw [if_neg ci, if_neg (show ¬ (0 ≤ i ∧ i ≤ 2) by omega)]
  · rw [if_neg cr, if_neg (show ¬ (0 ≤ r ∧ r ≤ 2) by omega)]
theorem lu_eq {k n : Int} (h : Sm0 f g) : ∀ (m : Nat) (z : Int), z ≤ m → 0 ≤ z → z ≤ 60 → wLuL f k n m z = lastL g k m z := by
  intro m
  induction m with
  | zero => intro z h1 h2 h3; unfold wLuL lastL; omega
  | succ m ih =>
    intro z h1 h2 h3
    unfold wLuL lastL
    rcases Decidable.em (z ≤ 0) with c | c
    · rw [if_pos c, if_pos c]
    · have q := h.J z 0 (by omega) (by omega)
      rw [Int.add_zero (36 + 3 * (z - 1))] at q
      rw [if_neg c, if_neg c, q, ih (z + -1) (by omega) (by omega) (by omega)]
theorem q_within (h : Sm f g) (hI : IM B g) (k n i : Int) : cWithin f k n i = rWithin g k n i := by
  obtain ⟨h0, h8, h14⟩ := h
  have A0 := h0.A
  unfold SmA at A0
  have n2 := hI.n60 (j := 2) (by omega)
  unfold cWithin rWithin
  rcases Decidable.em (0 ≤ k ∧ k < 10) with ck | ck
  · rw [if_pos ck, if_pos (show 0 ≤ k ∧ k ≤ 9 by omega)]
    rcases Decidable.em (0 ≤ n ∧ n ≤ g 2) with cn | cn
    · rw [if_neg (show ¬ n < 0 by omega), if_neg (show ¬ f 1 < n by omega), if_pos cn]
      rcases Decidable.em (0 ≤ i ∧ i < 2) with ci | ci
      · have e : wLu f k n = lastI g k n := lu_eq h0 60 n (by omega) cn.1 (by omega)
        have b := lastI_le (g := g) (k := k) cn.1
        rw [if_pos ci, if_pos (show 0 ≤ i ∧ i ≤ 1 by omega), e, wVal_eq h0 (by omega)]
      · rw [if_neg ci, if_neg (show ¬ (0 ≤ i ∧ i ≤ 1) by omega)]
    · rw [if_neg cn]
      rcases Decidable.em (n < 0) with c | c
      · rw [if_pos c]
      · rw [if_neg c, if_pos (show f 1 < n by omega)]
  · rw [if_neg ck, if_neg (show ¬ (0 ≤ k ∧ k ≤ 9) by omega)]
theorem q_least (h : Sm f g) (a t : Int) : cLeast f a t = rLeast g a t := by
  obtain ⟨h0, h8, h14⟩ := h
  unfold cLeast rLeast
  rcases Decidable.em (0 ≤ a ∧ a < 6) with ca | ca
  · rw [if_pos ca, if_pos (show 0 ≤ a ∧ a ≤ 5 by omega)]
    rcases Decidable.em (0 ≤ t ∧ t < 4) with ct | ct
    · rw [if_pos ct, if_pos (show 0 ≤ t ∧ t ≤ 3 by omega)]
      rcases leastK_eq h0 ca ct with q | q
      · rw [if_pos q.2, q.1]
      · rw [if_neg (by omega), q.1]
    · rw [if_neg ct, if_neg (show ¬ (0 ≤ t ∧ t ≤ 3) by omega)]
  · rw [if_neg ca, if_neg (show ¬ (0 ≤ a ∧ a ≤ 5) by omega)]
theorem ok_eq {a : Int} (h : Sm0 f g) (hI : IM B g) (ha : 0 ≤ a ∧ a < 6) : ∀ (m : Nat) (k n : Int), k + m = 10 → 0 ≤ k → wOkL f a (72 + a / 2 * 10) m k n (sA a k) = rOdL g a m k n := by
  intro m
  induction m with
  | zero => intro k n h1 h2; rfl
  | succ m ih =>
    intro k n h1 h2
    have hk : 0 ≤ k ∧ k < 10 := ⟨h2, by omega⟩
    have S := h.S a k ha hk
    have A0 := h.A
    have V := h.V (a / 2) k (by omega) hk
    unfold SmA at A0
    unfold EA at S
    have e : sA a k + 12 = sA a (k + 1) := by unfold sA; omega
    unfold wOkL rOdL
    rw [e, ih _ _ (by omega) (by omega), ih _ _ (by omega) (by omega)]
    rcases Decidable.em (g 0 < g (eA a k) ∧ g (eA a k + 2) < lastI g k (g (10 + a / 2))) with c | c
    · rw [if_neg (show ¬ f (72 + a / 2 * 10 + k) ≤ f (sA a k + 1) by omega), if_pos (show f 0 < f (sA a k + 5) by omega), if_pos c]
    · rw [if_neg c]
      rcases Decidable.em (f (72 + a / 2 * 10 + k) ≤ f (sA a k + 1)) with c2 | c2
      · rw [if_pos c2]
      · rw [if_neg c2, if_neg (show ¬ f 0 < f (sA a k + 5) by omega)]
theorem od_none {a : Int} (hI : IM B g) (ha : 0 ≤ a ∧ a < 6) (h0 : g (10 + a / 2) = 0) : ∀ (m : Nat) (k n : Int), k + m = 10 → 0 ≤ k → rOdL g a m k n = n := by
  intro m
  induction m with
  | zero => intro k n h1 h2; rfl
  | succ m ih =>
    intro k n h1 h2
    have en := hI.en ha (k := k) ⟨h2, by omega⟩
    have l := lastI_le (g := g) (k := k) (n := g (10 + a / 2)) (by omega)
    unfold rOdL
    rw [if_neg (by omega), ih _ _ (by omega) (by omega)]
theorem wOk_eq {a : Int} (h : Sm0 f g) (hI : IM B g) (ha : 0 ≤ a ∧ a < 6) : wOk f a = rOdL g a 10 0 0 := by
  have p := h.P (a / 2) (by omega)
  unfold wOk
  rcases Decidable.em (g (10 + a / 2) = 0) with c | c
  · rw [if_pos (by omega), od_none hI ha c 10 0 0 (by omega) (by omega)]
  · rw [if_neg (by omega), ok_eq h hI ha 10 0 0 (by omega) (by omega)]
theorem q_outdated (h : Sm f g) (hI : IM B g) (a : Int) : cOutdated f a = rOutdated g a := by
  obtain ⟨h0, h8, h14⟩ := h
  unfold cOutdated rOutdated
  rcases Decidable.em (0 ≤ a ∧ a < 6) with ca | ca
  · rw [if_pos ca, if_pos (show 0 ≤ a ∧ a ≤ 5 by omega), wOk_eq h0 hI ca]
  · rw [if_neg ca, if_neg (show ¬ (0 ≤ a ∧ a ≤ 5) by omega)]
theorem bh_eq {a k n : Int} (h : Sm0 f g) (hI : IM B g) : ∀ (m : Nat) (z y : Int), 1 ≤ z → wBhL f k n m z y = rLgL g a k m z y := by
  intro m
  induction m with
  | zero => intro z y h1; rfl
  | succ m ih =>
    intro z y h1
    have A0 := h.A
    have n2 := hI.n60 (j := 2) (by omega)
    unfold SmA at A0
    unfold wBhL rLgL
    rcases Decidable.em (g 2 < z) with c | c
    · rw [if_pos (by omega), if_pos c]
    · have q := h.J z 0 (by omega) (by omega)
      rw [Int.add_zero (36 + 3 * (z - 1))] at q
      rw [if_neg (by omega), if_neg c, q, ih _ _ (by omega), ih _ _ (by omega), Int.add_zero]
theorem q_lag (h : Sm f g) (hI : IM B g) (a k : Int) : cLag f a k = rLag g a k := by
  obtain ⟨h0, h8, h14⟩ := h
  unfold cLag rLag
  rcases Decidable.em (0 ≤ a ∧ a < 6) with ca | ca
  · rw [if_pos ca, if_pos (show 0 ≤ a ∧ a ≤ 5 by omega)]
    rcases Decidable.em (0 ≤ k ∧ k < 10) with ck | ck
    · rw [if_pos ck, if_pos (show 0 ≤ k ∧ k ≤ 9 by omega)]
      have S := h0.S a k ca ck
      have A0 := h0.A
      have en := hI.en ca ck
      unfold SmA at A0
      unfold EA at S
      rcases Decidable.em (g 0 < g (eA a k)) with c | c
      · rw [if_pos (show f 0 < f (sA a k + 5) by omega), if_pos c, S.2.1]
        exact bh_eq h0 hI 60 _ _ (by omega)
      · rw [if_neg (show ¬ f 0 < f (sA a k + 5) by omega), if_neg c]
    · rw [if_neg ck, if_neg (show ¬ (0 ≤ k ∧ k ≤ 9) by omega)]
  · rw [if_neg ca, if_neg (show ¬ (0 ≤ a ∧ a ≤ 5) by omega)]
/-- by whom and of which key -/
def byO (g : Int → Int) (c k z : Int) : Prop := g (36 + 3 * (z - 1)) = k ∧ g (36 + 3 * (z - 1) + 2) = c
theorem wWb_iff {c k z : Int} (h : Sm0 f g) (hz : 1 ≤ z ∧ z ≤ 60) : wWb f z c k = 0 ↔ ¬ byO g c k z := by
  have q := h.J z 0 hz (by omega)
  rw [Int.add_zero (36 + 3 * (z - 1))] at q
  have q2 := h.J z 2 hz (by omega)
  unfold wWb byO
  rw [q, q2]
  (repeat' split) <;> omega
theorem lb_spec {c k : Int} (h : Sm0 f g) : ∀ (m : Nat) (z : Int), z ≤ m → 0 ≤ z → z ≤ 60 → (wLbL f c k m z = 0 ∨ byO g c k (wLbL f c k m z)) ∧ (0 ≤ wLbL f c k m z ∧ wLbL f c k m z ≤ z) ∧ ∀ x, wLbL f c k m z < x → x ≤ z → ¬ byO g c k x := by
  intro m
  induction m with
  | zero => intro z h1 h2 h3; unfold wLbL; exact ⟨Or.inl rfl, by omega, fun x a b => by omega⟩
  | succ m ih =>
    intro z h1 h2 h3
    unfold wLbL
    rcases Decidable.em (z ≤ 0) with c0 | c0
    · rw [if_pos c0]; exact ⟨Or.inl (by omega), by omega, fun x a b => by omega⟩
    · rw [if_neg c0]
      have i := wWb_iff (c := c) (k := k) h (z := z) (by omega)
      rcases Decidable.em (wWb f z c k = 0) with c1 | c1
      · rw [if_pos c1]
        have q := ih (z + -1) (by omega) (by omega) (by omega)
        refine ⟨q.1, by omega, fun x a b => ?_⟩
        rcases Decidable.em (x = z) with e | e
        · subst e; exact i.mp c1
        · exact q.2.2 x a (by omega)
      · rw [if_neg c1]
        exact ⟨Or.inr (Classical.byContradiction fun z => c1 (i.mpr z)), by omega, fun x a b => by omega⟩
theorem ow_spec {c k y : Int} (hI : IM B g) : ∀ (m : Nat) (z : Int), g 2 + 1 ≤ z + m → 1 ≤ z → (rOwL g c k y m z = 1 ∧ (∀ x, z ≤ x → x ≤ g 2 → ¬ byO g c k x)) ∨ (rOwL g c k y m z = 0 ∧ ∃ x, z ≤ x ∧ x ≤ g 2 ∧ byO g c k x) := by
  intro m
  induction m with
  | zero => intro z h1 h2; exact Or.inl ⟨rfl, fun x a b => by omega⟩
  | succ m ih =>
    intro z h1 h2
    unfold rOwL
    rcases Decidable.em (g 2 < z) with c0 | c0
    · rw [if_pos c0]; exact Or.inl ⟨rfl, fun x a b => by omega⟩
    · rw [if_neg c0]
      have q := ih (z + 1) (by omega) (by omega)
      rcases Decidable.em (g (36 + 3 * (z - 1)) = k) with c1 | c1
      · rw [if_pos c1]
        rcases Decidable.em (g (36 + 3 * (z - 1) + 2) = c) with c2 | c2
        · rw [if_pos c2]
          exact Or.inr ⟨rfl, z, by omega, by omega, c1, c2⟩
        · rw [if_neg c2]
          rcases q with q | ⟨q, x, x1, x2, x3⟩
          · refine Or.inl ⟨q.1, fun x a b => ?_⟩
            rcases Decidable.em (x = z) with e | e
            · subst e; exact fun w => c2 w.2
            · exact q.2 x (by omega) b
          · exact Or.inr ⟨q, x, by omega, x2, x3⟩
      · rw [if_neg c1]
        rcases q with q | ⟨q, x, x1, x2, x3⟩
        · refine Or.inl ⟨q.1, fun x a b => ?_⟩
          rcases Decidable.em (x = z) with e | e
          · subst e; exact fun w => c1 w.1
          · exact q.2 x (by omega) b
        · exact Or.inr ⟨q, x, by omega, x2, x3⟩
theorem q_own (h : Sm f g) (hI : IM B g) (c k : Int) : cOwn f c k = rOwn g c k := by
  obtain ⟨h0, h8, h14⟩ := h
  unfold cOwn rOwn
  rcases Decidable.em (0 ≤ c ∧ c < 6) with cc | cc
  · rw [if_pos cc, if_pos (show 0 ≤ c ∧ c ≤ 5 by omega)]
    rcases Decidable.em (0 ≤ k ∧ k < 10) with ck | ck
    · rw [if_pos ck, if_pos (show 0 ≤ k ∧ k ≤ 9 by omega), (h0.H c cc).1]
      have ha := (hI.cl cc).1
      have S := h0.S (g (hA c + 0)) k ha ck
      have A0 := h0.A
      have en := hI.en ha ck
      have n2 := hI.n60 (j := 2) (by omega)
      unfold SmA at A0
      unfold EA at S
      rcases Decidable.em (g 0 < g (eA (g (hA c + 0)) k)) with c1 | c1
      · rw [if_pos (show f 0 < f (sA (g (hA c + 0)) k + 5) by omega), if_pos c1, S.2.1]
        have q := lb_spec (c := c) (k := k) h0 60 (f 1) (by omega) (by omega) (by omega)
        have o := ow_spec (c := c) (k := k) (y := eA (g (hA c + 0)) k) hI 60 (g (eA (g (hA c + 0)) k + 2) + 1) (by omega) (by omega)
        unfold wLb
        rcases o with ⟨o, o2⟩ | ⟨o, x, x1, x2, x3⟩
        · rw [o, if_neg]
          intro w
          rcases q.1 with e | e
          · omega
          · exact o2 _ (by omega) (by omega) e
        · rw [o, if_pos]
          rcases Decidable.em (g (eA (g (hA c + 0)) k + 2) < wLbL f c k 60 (f 1)) with w | w
          · exact w
          · exact absurd x3 (q.2.2 x (by omega) (by omega))
      · rw [if_neg (show ¬ f 0 < f (sA (g (hA c + 0)) k + 5) by omega), if_neg c1]
    · rw [if_neg ck, if_neg (show ¬ (0 ≤ k ∧ k ≤ 9) by omega)]
  · rw [if_neg cc, if_neg (show ¬ (0 ≤ c ∧ c ≤ 5) by omega)]
end QE
