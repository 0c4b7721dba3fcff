/-! reading a word -/
def STD (T : Int → Int) (i e : Int) (k : Nat) : Prop := e - i = ((xkC k).length : Int) ∧ ∀ j : Int, 0 ≤ j ∧ j < ((xkC k).length : Int) → T (i + j) = (xkC k).getD j.toNat 0
def weL (T : Int → Int) : Nat → Int → Int
  | 0, i => i
  | m + 1, i => if 97 ≤ T i then if T i ≤ 122 then weL T m (i + 1) else i else i
def wE (T : Int → Int) (ln i : Int) : Int := weL T (ln - i).toNat i
def wnN (T : Int → Int) (i : Int) : Nat → Int
  | 0 => 0
  | n + 1 => 32 * wnN T i n + (T (i + n) - 96)
def wcd (T : Int → Int) (i e : Int) : Int := if e - i ≤ 8 then wnN T i (e - i).toNat else -1
def vb : Nat → Int
  | 0 => 7348
  | 1 => 409067
  | 2 => 206220
  | 3 => 24716933
  | 4 => 1589657
  | 5 => 664683
  | 6 => 114052
  | _ => 755277
section WD
variable {X : XS} {h : AH} {Q : Option AV → AH → Prop} {T : Int → Int} {ln : Int} {b : Nat × Nat}
theorem weL_b : ∀ (m : Nat) (i : Int), i ≤ weL T m i ∧ weL T m i ≤ i + m := by
  intro m
  induction m with
  | zero => intro i; exact ⟨Int.le_refl _, by show i ≤ i + ((0 : Nat) : Int); omega⟩
  | succ m ih =>
    intro i
    have := ih (i + 1)
    unfold weL
    (repeat' split) <;> omega
theorem weL_let : ∀ (m : Nat) (i j : Int), i ≤ j → j < weL T m i → 97 ≤ T j ∧ T j ≤ 122 := by
  intro m
  induction m with
  | zero => intro i j h1 h2; unfold weL at h2; omega
  | succ m ih =>
    intro i j h1 h2
    unfold weL at h2
    rcases Decidable.em (j = i) with e | e
    · subst e
      (repeat' split at h2) <;> omega
    · (repeat' split at h2)
      · exact ih (i + 1) j (by omega) h2
      · omega
      · omega
theorem wnN_b {i : Int} : ∀ n : Nat, (∀ j : Int, 0 ≤ j ∧ j < n → 97 ≤ T (i + j) ∧ T (i + j) ≤ 122) → 0 ≤ wnN T i n ∧ wnN T i n < 32 ^ n ∧ (1 ≤ n → 1 ≤ wnN T i n) := by
  intro n
  induction n with
  | zero => intro _; exact ⟨Int.le_refl 0, by show (0 : Int) < 32 ^ 0; decide, fun q => absurd q (by omega)⟩
  | succ n ih =>
    intro hl
    have q := ih (fun j hj => hl j (by omega))
    have l := hl n (by omega)
    unfold wnN
    rw [Int.pow_succ]
    generalize (32 : Int) ^ n = z at *
    omega
theorem p32 : ∀ n : Fin 9, (32 : Int) ^ n.val ≤ 1099511627776 := by decide +kernel
theorem wnN_r {i : Int} {n : Nat} (hn : n ≤ 8) (hl : ∀ j : Int, 0 ≤ j ∧ j < n → 97 ≤ T (i + j) ∧ T (i + j) ≤ 122) : 0 ≤ wnN T i n ∧ wnN T i n < 1099511627776 := by
  have q := wnN_b n hl
  have p := p32 ⟨n, by omega⟩
  dsimp only at p
  omega
theorem wnN_inv {i c : Int} {n : Nat} (hl : ∀ j : Int, 0 ≤ j ∧ j < n → 97 ≤ T (i + j) ∧ T (i + j) ≤ 122) (h : wnN T i n = c) (hc : c ≠ 0) : ∃ n' : Nat, n = n' + 1 ∧ wnN T i n' = c / 32 ∧ (∀ j : Int, 0 ≤ j ∧ j < n' → 97 ≤ T (i + j) ∧ T (i + j) ≤ 122) ∧ ∀ j : Int, j = n' → T (i + j) = 96 + c % 32 := by
  cases n with
  | zero => exact absurd h.symm hc
  | succ n =>
    unfold wnN at h
    have l := hl n (by omega)
    refine ⟨n, rfl, by omega, fun j hj => hl j (by omega), fun j hj => ?_⟩
    subst hj
    omega
theorem wnN_nil {i : Int} {n : Nat} (hl : ∀ j : Int, 0 ≤ j ∧ j < n → 97 ≤ T (i + j) ∧ T (i + j) ≤ 122) (h : wnN T i n = 0) : n = 0 := by
  have q := wnN_b n hl
  rcases Nat.eq_zero_or_pos n with e | e
  · exact e
  · have := q.2.2 e; omega
theorem wcd_r {i e : Int} (he : i ≤ e) (hl : ∀ j, i ≤ j → j < e → 97 ≤ T j ∧ T j ≤ 122) : -1 ≤ wcd T i e ∧ wcd T i e < 1099511627776 := by
  unfold wcd
  split
  · have := wnN_r (i := i) (n := (e - i).toNat) (by omega) (fun j hj => hl (i + j) (by omega) (by omega)); omega
  · omega
theorem sc0 {i e : Int} (he : i ≤ e) (hl : ∀ j, i ≤ j → j < e → 97 ≤ T j ∧ T j ≤ 122) : wcd T i e = 7348 ↔ STD T i e 0 := by
  constructor
  · intro hc
    unfold wcd at hc
    split at hc
    · have l0 : ∀ j : Int, 0 ≤ j ∧ j < ((e - i).toNat : Int) → 97 ≤ T (i + j) ∧ T (i + j) ≤ 122 := fun j hj => hl (i + j) (by omega) (by omega)
      obtain ⟨n1, x1, h1, l1, t1⟩ := wnN_inv (c := 7348) l0 hc (by decide)
      have g1 : wnN T i n1 = 229 := by omega
      obtain ⟨n2, x2, h2, l2, t2⟩ := wnN_inv (c := 229) l1 g1 (by decide)
      have g2 : wnN T i n2 = 7 := by omega
      obtain ⟨n3, x3, h3, l3, t3⟩ := wnN_inv (c := 7) l2 g2 (by decide)
      have g3 : wnN T i n3 = 0 := by omega
      have z := wnN_nil l3 g3
      refine ⟨by show e - i = 3; omega, fun j hj => ?_⟩
      have hj2 : 0 ≤ j ∧ j < 3 := hj
      rcases (by omega : j = 0 ∨ j = 1 ∨ j = 2) with rfl | rfl | rfl
      · rw [t3 0 (by omega)]; rfl
      · rw [t2 1 (by omega)]; rfl
      · rw [t1 2 (by omega)]; rfl
    · omega
  · rintro ⟨h1, h2⟩
    have h1 : e - i = 3 := h1
    have u0 : T (i + 0) = 103 := h2 0 ⟨by omega, by decide⟩
    have u1 : T (i + 1) = 101 := h2 1 ⟨by omega, by decide⟩
    have u2 : T (i + 2) = 116 := h2 2 ⟨by omega, by decide⟩
    unfold wcd
    rw [if_pos (by omega), h1]
    have e3 : ((3 : Int)).toNat = 3 := rfl
    rw [e3]
    show (32 * (32 * (32 * 0 + (T (i + 0) - 96)) + (T (i + 1) - 96)) + (T (i + 2) - 96)) = 7348
    omega
theorem sc1 {i e : Int} (he : i ≤ e) (hl : ∀ j, i ≤ j → j < e → 97 ≤ T j ∧ T j ≤ 122) : wcd T i e = 409067 ↔ STD T i e 1 := by
  constructor
  · intro hc
    unfold wcd at hc
    split at hc
    · have l0 : ∀ j : Int, 0 ≤ j ∧ j < ((e - i).toNat : Int) → 97 ≤ T (i + j) ∧ T (i + j) ≤ 122 := fun j hj => hl (i + j) (by omega) (by omega)
      obtain ⟨n1, x1, h1, l1, t1⟩ := wnN_inv (c := 409067) l0 hc (by decide)
      have g1 : wnN T i n1 = 12783 := by omega
      obtain ⟨n2, x2, h2, l2, t2⟩ := wnN_inv (c := 12783) l1 g1 (by decide)
      have g2 : wnN T i n2 = 399 := by omega
      obtain ⟨n3, x3, h3, l3, t3⟩ := wnN_inv (c := 399) l2 g2 (by decide)
      have g3 : wnN T i n3 = 12 := by omega
      obtain ⟨n4, x4, h4, l4, t4⟩ := wnN_inv (c := 12) l3 g3 (by decide)
      have g4 : wnN T i n4 = 0 := by omega
      have z := wnN_nil l4 g4
      refine ⟨by show e - i = 4; omega, fun j hj => ?_⟩
      have hj2 : 0 ≤ j ∧ j < 4 := hj
      rcases (by omega : j = 0 ∨ j = 1 ∨ j = 2 ∨ j = 3) with rfl | rfl | rfl | rfl
      · rw [t4 0 (by omega)]; rfl
      · rw [t3 1 (by omega)]; rfl
      · rw [t2 2 (by omega)]; rfl
      · rw [t1 3 (by omega)]; rfl
    · omega
  · rintro ⟨h1, h2⟩
    have h1 : e - i = 4 := h1
    have u0 : T (i + 0) = 108 := h2 0 ⟨by omega, by decide⟩
    have u1 : T (i + 1) = 111 := h2 1 ⟨by omega, by decide⟩
    have u2 : T (i + 2) = 111 := h2 2 ⟨by omega, by decide⟩
    have u3 : T (i + 3) = 107 := h2 3 ⟨by omega, by decide⟩
    unfold wcd
    rw [if_pos (by omega), h1]
    have e3 : ((4 : Int)).toNat = 4 := rfl
    rw [e3]
    show (32 * (32 * (32 * (32 * 0 + (T (i + 0) - 96)) + (T (i + 1) - 96)) + (T (i + 2) - 96)) + (T (i + 3) - 96)) = 409067
    omega
theorem sc2 {i e : Int} (he : i ≤ e) (hl : ∀ j, i ≤ j → j < e → 97 ≤ T j ∧ T j ≤ 122) : wcd T i e = 206220 ↔ STD T i e 2 := by
  constructor
  · intro hc
    unfold wcd at hc
    split at hc
    · have l0 : ∀ j : Int, 0 ≤ j ∧ j < ((e - i).toNat : Int) → 97 ≤ T (i + j) ∧ T (i + j) ≤ 122 := fun j hj => hl (i + j) (by omega) (by omega)
      obtain ⟨n1, x1, h1, l1, t1⟩ := wnN_inv (c := 206220) l0 hc (by decide)
      have g1 : wnN T i n1 = 6444 := by omega
      obtain ⟨n2, x2, h2, l2, t2⟩ := wnN_inv (c := 6444) l1 g1 (by decide)
      have g2 : wnN T i n2 = 201 := by omega
      obtain ⟨n3, x3, h3, l3, t3⟩ := wnN_inv (c := 201) l2 g2 (by decide)
      have g3 : wnN T i n3 = 6 := by omega
      obtain ⟨n4, x4, h4, l4, t4⟩ := wnN_inv (c := 6) l3 g3 (by decide)
      have g4 : wnN T i n4 = 0 := by omega
      have z := wnN_nil l4 g4
      refine ⟨by show e - i = 4; omega, fun j hj => ?_⟩
      have hj2 : 0 ≤ j ∧ j < 4 := hj
      rcases (by omega : j = 0 ∨ j = 1 ∨ j = 2 ∨ j = 3) with rfl | rfl | rfl | rfl
      · rw [t4 0 (by omega)]; rfl
      · rw [t3 1 (by omega)]; rfl
      · rw [t2 2 (by omega)]; rfl
      · rw [t1 3 (by omega)]; rfl
    · omega
  · rintro ⟨h1, h2⟩
    have h1 : e - i = 4 := h1
    have u0 : T (i + 0) = 102 := h2 0 ⟨by omega, by decide⟩
    have u1 : T (i + 1) = 105 := h2 1 ⟨by omega, by decide⟩
    have u2 : T (i + 2) = 108 := h2 2 ⟨by omega, by decide⟩
    have u3 : T (i + 3) = 108 := h2 3 ⟨by omega, by decide⟩
    unfold wcd
    rw [if_pos (by omega), h1]
    have e3 : ((4 : Int)).toNat = 4 := rfl
    rw [e3]
    show (32 * (32 * (32 * (32 * 0 + (T (i + 0) - 96)) + (T (i + 1) - 96)) + (T (i + 2) - 96)) + (T (i + 3) - 96)) = 206220
    omega
theorem sc3 {i e : Int} (he : i ≤ e) (hl : ∀ j, i ≤ j → j < e → 97 ≤ T j ∧ T j ≤ 122) : wcd T i e = 24716933 ↔ STD T i e 3 := by
  constructor
  · intro hc
    unfold wcd at hc
    split at hc
    · have l0 : ∀ j : Int, 0 ≤ j ∧ j < ((e - i).toNat : Int) → 97 ≤ T (i + j) ∧ T (i + j) ≤ 122 := fun j hj => hl (i + j) (by omega) (by omega)
      obtain ⟨n1, x1, h1, l1, t1⟩ := wnN_inv (c := 24716933) l0 hc (by decide)
      have g1 : wnN T i n1 = 772404 := by omega
      obtain ⟨n2, x2, h2, l2, t2⟩ := wnN_inv (c := 772404) l1 g1 (by decide)
      have g2 : wnN T i n2 = 24137 := by omega
      obtain ⟨n3, x3, h3, l3, t3⟩ := wnN_inv (c := 24137) l2 g2 (by decide)
      have g3 : wnN T i n3 = 754 := by omega
      obtain ⟨n4, x4, h4, l4, t4⟩ := wnN_inv (c := 754) l3 g3 (by decide)
      have g4 : wnN T i n4 = 23 := by omega
      obtain ⟨n5, x5, h5, l5, t5⟩ := wnN_inv (c := 23) l4 g4 (by decide)
      have g5 : wnN T i n5 = 0 := by omega
      have z := wnN_nil l5 g5
      refine ⟨by show e - i = 5; omega, fun j hj => ?_⟩
      have hj2 : 0 ≤ j ∧ j < 5 := hj
      rcases (by omega : j = 0 ∨ j = 1 ∨ j = 2 ∨ j = 3 ∨ j = 4) with rfl | rfl | rfl | rfl | rfl
      · rw [t5 0 (by omega)]; rfl
      · rw [t4 1 (by omega)]; rfl
      · rw [t3 2 (by omega)]; rfl
      · rw [t2 3 (by omega)]; rfl
      · rw [t1 4 (by omega)]; rfl
    · omega
  · rintro ⟨h1, h2⟩
    have h1 : e - i = 5 := h1
    have u0 : T (i + 0) = 119 := h2 0 ⟨by omega, by decide⟩
    have u1 : T (i + 1) = 114 := h2 1 ⟨by omega, by decide⟩
    have u2 : T (i + 2) = 105 := h2 2 ⟨by omega, by decide⟩
    have u3 : T (i + 3) = 116 := h2 3 ⟨by omega, by decide⟩
    have u4 : T (i + 4) = 101 := h2 4 ⟨by omega, by decide⟩
    unfold wcd
    rw [if_pos (by omega), h1]
    have e3 : ((5 : Int)).toNat = 5 := rfl
    rw [e3]
    show (32 * (32 * (32 * (32 * (32 * 0 + (T (i + 0) - 96)) + (T (i + 1) - 96)) + (T (i + 2) - 96)) + (T (i + 3) - 96)) + (T (i + 4) - 96)) = 24716933
    omega
theorem sc4 {i e : Int} (he : i ≤ e) (hl : ∀ j, i ≤ j → j < e → 97 ≤ T j ∧ T j ≤ 122) : wcd T i e = 1589657 ↔ STD T i e 4 := by
  constructor
  · intro hc
    unfold wcd at hc
    split at hc
    · have l0 : ∀ j : Int, 0 ≤ j ∧ j < ((e - i).toNat : Int) → 97 ≤ T (i + j) ∧ T (i + j) ≤ 122 := fun j hj => hl (i + j) (by omega) (by omega)
      obtain ⟨n1, x1, h1, l1, t1⟩ := wnN_inv (c := 1589657) l0 hc (by decide)
      have g1 : wnN T i n1 = 49676 := by omega
      obtain ⟨n2, x2, h2, l2, t2⟩ := wnN_inv (c := 49676) l1 g1 (by decide)
      have g2 : wnN T i n2 = 1552 := by omega
      obtain ⟨n3, x3, h3, l3, t3⟩ := wnN_inv (c := 1552) l2 g2 (by decide)
      have g3 : wnN T i n3 = 48 := by omega
      obtain ⟨n4, x4, h4, l4, t4⟩ := wnN_inv (c := 48) l3 g3 (by decide)
      have g4 : wnN T i n4 = 1 := by omega
      obtain ⟨n5, x5, h5, l5, t5⟩ := wnN_inv (c := 1) l4 g4 (by decide)
      have g5 : wnN T i n5 = 0 := by omega
      have z := wnN_nil l5 g5
      refine ⟨by show e - i = 5; omega, fun j hj => ?_⟩
      have hj2 : 0 ≤ j ∧ j < 5 := hj
      rcases (by omega : j = 0 ∨ j = 1 ∨ j = 2 ∨ j = 3 ∨ j = 4) with rfl | rfl | rfl | rfl | rfl
      · rw [t5 0 (by omega)]; rfl
      · rw [t4 1 (by omega)]; rfl
      · rw [t3 2 (by omega)]; rfl
      · rw [t2 3 (by omega)]; rfl
      · rw [t1 4 (by omega)]; rfl
    · omega
  · rintro ⟨h1, h2⟩
    have h1 : e - i = 5 := h1
    have u0 : T (i + 0) = 97 := h2 0 ⟨by omega, by decide⟩
    have u1 : T (i + 1) = 112 := h2 1 ⟨by omega, by decide⟩
    have u2 : T (i + 2) = 112 := h2 2 ⟨by omega, by decide⟩
    have u3 : T (i + 3) = 108 := h2 3 ⟨by omega, by decide⟩
    have u4 : T (i + 4) = 121 := h2 4 ⟨by omega, by decide⟩
    unfold wcd
    rw [if_pos (by omega), h1]
    have e3 : ((5 : Int)).toNat = 5 := rfl
    rw [e3]
    show (32 * (32 * (32 * (32 * (32 * 0 + (T (i + 0) - 96)) + (T (i + 1) - 96)) + (T (i + 2) - 96)) + (T (i + 3) - 96)) + (T (i + 4) - 96)) = 1589657
    omega
theorem sc5 {i e : Int} (he : i ≤ e) (hl : ∀ j, i ≤ j → j < e → 97 ≤ T j ∧ T j ≤ 122) : wcd T i e = 664683 ↔ STD T i e 5 := by
  constructor
  · intro hc
    unfold wcd at hc
    split at hc
    · have l0 : ∀ j : Int, 0 ≤ j ∧ j < ((e - i).toNat : Int) → 97 ≤ T (i + j) ∧ T (i + j) ≤ 122 := fun j hj => hl (i + j) (by omega) (by omega)
      obtain ⟨n1, x1, h1, l1, t1⟩ := wnN_inv (c := 664683) l0 hc (by decide)
      have g1 : wnN T i n1 = 20771 := by omega
      obtain ⟨n2, x2, h2, l2, t2⟩ := wnN_inv (c := 20771) l1 g1 (by decide)
      have g2 : wnN T i n2 = 649 := by omega
      obtain ⟨n3, x3, h3, l3, t3⟩ := wnN_inv (c := 649) l2 g2 (by decide)
      have g3 : wnN T i n3 = 20 := by omega
      obtain ⟨n4, x4, h4, l4, t4⟩ := wnN_inv (c := 20) l3 g3 (by decide)
      have g4 : wnN T i n4 = 0 := by omega
      have z := wnN_nil l4 g4
      refine ⟨by show e - i = 4; omega, fun j hj => ?_⟩
      have hj2 : 0 ≤ j ∧ j < 4 := hj
      rcases (by omega : j = 0 ∨ j = 1 ∨ j = 2 ∨ j = 3) with rfl | rfl | rfl | rfl
      · rw [t4 0 (by omega)]; rfl
      · rw [t3 1 (by omega)]; rfl
      · rw [t2 2 (by omega)]; rfl
      · rw [t1 3 (by omega)]; rfl
    · omega
  · rintro ⟨h1, h2⟩
    have h1 : e - i = 4 := h1
    have u0 : T (i + 0) = 116 := h2 0 ⟨by omega, by decide⟩
    have u1 : T (i + 1) = 105 := h2 1 ⟨by omega, by decide⟩
    have u2 : T (i + 2) = 99 := h2 2 ⟨by omega, by decide⟩
    have u3 : T (i + 3) = 107 := h2 3 ⟨by omega, by decide⟩
    unfold wcd
    rw [if_pos (by omega), h1]
    have e3 : ((4 : Int)).toNat = 4 := rfl
    rw [e3]
    show (32 * (32 * (32 * (32 * 0 + (T (i + 0) - 96)) + (T (i + 1) - 96)) + (T (i + 2) - 96)) + (T (i + 3) - 96)) = 664683
    omega
theorem sc6 {i e : Int} (he : i ≤ e) (hl : ∀ j, i ≤ j → j < e → 97 ≤ T j ∧ T j ≤ 122) : wcd T i e = 114052 ↔ STD T i e 6 := by
  constructor
  · intro hc
    unfold wcd at hc
    split at hc
    · have l0 : ∀ j : Int, 0 ≤ j ∧ j < ((e - i).toNat : Int) → 97 ≤ T (i + j) ∧ T (i + j) ≤ 122 := fun j hj => hl (i + j) (by omega) (by omega)
      obtain ⟨n1, x1, h1, l1, t1⟩ := wnN_inv (c := 114052) l0 hc (by decide)
      have g1 : wnN T i n1 = 3564 := by omega
      obtain ⟨n2, x2, h2, l2, t2⟩ := wnN_inv (c := 3564) l1 g1 (by decide)
      have g2 : wnN T i n2 = 111 := by omega
      obtain ⟨n3, x3, h3, l3, t3⟩ := wnN_inv (c := 111) l2 g2 (by decide)
      have g3 : wnN T i n3 = 3 := by omega
      obtain ⟨n4, x4, h4, l4, t4⟩ := wnN_inv (c := 3) l3 g3 (by decide)
      have g4 : wnN T i n4 = 0 := by omega
      have z := wnN_nil l4 g4
      refine ⟨by show e - i = 4; omega, fun j hj => ?_⟩
      have hj2 : 0 ≤ j ∧ j < 4 := hj
      rcases (by omega : j = 0 ∨ j = 1 ∨ j = 2 ∨ j = 3) with rfl | rfl | rfl | rfl
      · rw [t4 0 (by omega)]; rfl
      · rw [t3 1 (by omega)]; rfl
      · rw [t2 2 (by omega)]; rfl
      · rw [t1 3 (by omega)]; rfl
    · omega
  · rintro ⟨h1, h2⟩
    have h1 : e - i = 4 := h1
    have u0 : T (i + 0) = 99 := h2 0 ⟨by omega, by decide⟩
    have u1 : T (i + 1) = 111 := h2 1 ⟨by omega, by decide⟩
    have u2 : T (i + 2) = 108 := h2 2 ⟨by omega, by decide⟩
    have u3 : T (i + 3) = 100 := h2 3 ⟨by omega, by decide⟩
    unfold wcd
    rw [if_pos (by omega), h1]
    have e3 : ((4 : Int)).toNat = 4 := rfl
    rw [e3]
    show (32 * (32 * (32 * (32 * 0 + (T (i + 0) - 96)) + (T (i + 1) - 96)) + (T (i + 2) - 96)) + (T (i + 3) - 96)) = 114052
    omega
theorem sc7 {i e : Int} (he : i ≤ e) (hl : ∀ j, i ≤ j → j < e → 97 ≤ T j ∧ T j ≤ 122) : wcd T i e = 755277 ↔ STD T i e 7 := by
  constructor
  · intro hc
    unfold wcd at hc
    split at hc
    · have l0 : ∀ j : Int, 0 ≤ j ∧ j < ((e - i).toNat : Int) → 97 ≤ T (i + j) ∧ T (i + j) ≤ 122 := fun j hj => hl (i + j) (by omega) (by omega)
      obtain ⟨n1, x1, h1, l1, t1⟩ := wnN_inv (c := 755277) l0 hc (by decide)
      have g1 : wnN T i n1 = 23602 := by omega
      obtain ⟨n2, x2, h2, l2, t2⟩ := wnN_inv (c := 23602) l1 g1 (by decide)
      have g2 : wnN T i n2 = 737 := by omega
      obtain ⟨n3, x3, h3, l3, t3⟩ := wnN_inv (c := 737) l2 g2 (by decide)
      have g3 : wnN T i n3 = 23 := by omega
      obtain ⟨n4, x4, h4, l4, t4⟩ := wnN_inv (c := 23) l3 g3 (by decide)
      have g4 : wnN T i n4 = 0 := by omega
      have z := wnN_nil l4 g4
      refine ⟨by show e - i = 4; omega, fun j hj => ?_⟩
      have hj2 : 0 ≤ j ∧ j < 4 := hj
      rcases (by omega : j = 0 ∨ j = 1 ∨ j = 2 ∨ j = 3) with rfl | rfl | rfl | rfl
      · rw [t4 0 (by omega)]; rfl
      · rw [t3 1 (by omega)]; rfl
      · rw [t2 2 (by omega)]; rfl
      · rw [t1 3 (by omega)]; rfl
    · omega
  · rintro ⟨h1, h2⟩
    have h1 : e - i = 4 := h1
    have u0 : T (i + 0) = 119 := h2 0 ⟨by omega, by decide⟩
    have u1 : T (i + 1) = 97 := h2 1 ⟨by omega, by decide⟩
    have u2 : T (i + 2) = 114 := h2 2 ⟨by omega, by decide⟩
    have u3 : T (i + 3) = 109 := h2 3 ⟨by omega, by decide⟩
    unfold wcd
    rw [if_pos (by omega), h1]
    have e3 : ((4 : Int)).toNat = 4 := rfl
    rw [e3]
    show (32 * (32 * (32 * (32 * 0 + (T (i + 0) - 96)) + (T (i + 1) - 96)) + (T (i + 2) - 96)) + (T (i + 3) - 96)) = 755277
    omega
theorem std_code {i e : Int} (he : i ≤ e) (hl : ∀ j, i ≤ j → j < e → 97 ≤ T j ∧ T j ≤ 122) {k : Nat} (hk : k < 8) : wcd T i e = vb k ↔ STD T i e k := by
  rcases (by omega : k = 0 ∨ k = 1 ∨ k = 2 ∨ k = 3 ∨ k = 4 ∨ k = 5 ∨ k = 6 ∨ k = 7) with rfl | rfl | rfl | rfl | rfl | rfl | rfl | rfl
  · exact sc0 he hl
  · exact sc1 he hl
  · exact sc2 he hl
  · exact sc3 he hl
  · exact sc4 he hl
  · exact sc5 he hl
  · exact sc6 he hl
  · exact sc7 he hl
end WD
