/-! storm, pure part -/
def stO (G : (Int → Int) → Int → Int × (Int → Int)) (tk : Int) : Nat → Int → (Int → Int) → (Int → Int) → (Int → Int) × (Int → Int)
  | 0, _, w, f => (w, f)
  | m + 1, c, w, f => if w c = 1 then stO G tk m (c + 1) (if 0 ≤ (G f c).1 ∧ ((G f c).1 < 1000 ∨ tk = 1) then ud w c 0 else w) (G f c).2 else stO G tk m (c + 1) w f
def stK (H : (Int → Int) → Int → Int) (G : (Int → Int) → Int → Int × (Int → Int)) : Nat → Int → (Int → Int) → (Int → Int) → (Int → Int) → (Int → Int) × (Int → Int)
  | 0, _, _, lk, f => (lk, f)
  | m + 1, c, w, lk, f => if w c = 1 ∧ H f c = 1 then stK H G m (c + 1) w (ud lk c 1) (G f c).2 else stK H G m (c + 1) w lk f
def stF (G : (Int → Int) → Int → Int × (Int → Int)) : Nat → Int → (Int → Int) → (Int → Int) → (Int → Int)
  | 0, _, _, f => f
  | m + 1, c, lk, f => if lk c = 1 then stF G m (c + 1) lk (G f c).2 else stF G m (c + 1) lk f
def wmL (w lk : Int → Int) : Int → Int := fun c => if lk c = 1 then 0 else w c
def z0 : Int → Int := fun _ => 0
def rHf (g : Int → Int) (c k : Int) : Int := if g (hA c + 1) = k then 1 else 0
def cO (k tk : Int) := stO (fun f c => wGet f c k) tk
def cL (k : Int) := stK (fun f c => wHf f c k) wLook
def cFl := stF wFill
def rO (k tk : Int) := stO (fun g c => spGet g c k) tk
def rL (k : Int) := stK (fun g c => rHf g c k) spLook
def rFl := stF spFill
def cRnd (k tk : Int) (w f : Int → Int) : (Int → Int) × (Int → Int) := (wmL (cO k tk 6 0 w f).1 (cL k 6 0 (cO k tk 6 0 w f).1 z0 (cO k tk 6 0 w f).2).1, cFl 6 0 (cL k 6 0 (cO k tk 6 0 w f).1 z0 (cO k tk 6 0 w f).2).1 (cL k 6 0 (cO k tk 6 0 w f).1 z0 (cO k tk 6 0 w f).2).2)
def rRnd (k tk : Int) (w f : Int → Int) : (Int → Int) × (Int → Int) := (wmL (rO k tk 6 0 w f).1 (rL k 6 0 (rO k tk 6 0 w f).1 z0 (rO k tk 6 0 w f).2).1, rFl 6 0 (rL k 6 0 (rO k tk 6 0 w f).1 z0 (rO k tk 6 0 w f).2).1 (rL k 6 0 (rO k tk 6 0 w f).1 z0 (rO k tk 6 0 w f).2).2)
def stR (G : (Int → Int) → (Int → Int) → (Int → Int) × (Int → Int)) : Nat → Int → (Int → Int) → (Int → Int) → Int × (Int → Int) × (Int → Int)
  | 0, n, w, f => (n, w, f)
  | m + 1, n, w, f => if cnt w = 0 then (n, w, f) else stR G m (n + 1) (G w f).1 (G w f).2
def WB (w : Int → Int) : Prop := ∀ j, w j = 0 ∨ w j = 1 ∧ 0 ≤ j ∧ j < 6
section ST
variable {f g w lk : Int → Int} {B : Int}
theorem WB.b (h : WB w) : b01 w := fun k _ => by rcases h k with e | e; exact Or.inl e; exact Or.inr e.1
theorem WB.z {j : Int} (h : WB w) (hj : 6 ≤ j) : w j = 0 := by rcases h j with e | e; exact e; omega
theorem WB.c {c : Int} (h : WB w) : WB (ud w c 0) := fun j => by
  rcases Decidable.em (j = c) with e | e
  · rw [e, ud_eq]; exact Or.inl rfl
  · rw [ud_ne e]; exact h j
theorem WB.s {c : Int} (h : WB w) (hc : 0 ≤ c ∧ c < 6) : WB (ud w c 1) := fun j => by
  rcases Decidable.em (j = c) with e | e
  · rw [e, ud_eq]; exact Or.inr ⟨rfl, hc⟩
  · rw [ud_ne e]; exact h j
theorem WB.m (h : WB w) : WB (wmL w lk) := fun j => by unfold wmL; split; exact Or.inl rfl; exact h j
theorem WB.z0 : WB z0 := fun j => Or.inl rfl
theorem WB.r (h : WB w) : 0 ≤ bs w ∧ bs w < 64 := by
  have q := h.b.x
  have a := h.z (j := 6) (by omega)
  have b := h.z (j := 7) (by omega)
  have c := h.z (j := 8) (by omega)
  have d := h.z (j := 9) (by omega)
  unfold bs
  omega
theorem stO_wb {G : (Int → Int) → Int → Int × (Int → Int)} {tk : Int} : ∀ (m : Nat) (c : Int) (w f : Int → Int), WB w → WB (stO G tk m c w f).1 := by
  intro m
  induction m with
  | zero => intro c w f h; exact h
  | succ m ih =>
    intro c w f h
    unfold stO
    split
    · split
      · exact ih _ _ _ h.c
      · exact ih _ _ _ h
    · exact ih _ _ _ h
theorem stK_wb {H : (Int → Int) → Int → Int} {G : (Int → Int) → Int → Int × (Int → Int)} : ∀ (m : Nat) (c : Int) (w lk f : Int → Int), c + m = 6 → 0 ≤ c → WB lk → WB (stK H G m c w lk f).1 := by
  intro m
  induction m with
  | zero => intro c w lk f _ _ h; exact h
  | succ m ih =>
    intro c w lk f h1 h2 h
    unfold stK
    split
    · exact ih _ _ _ _ (by omega) (by omega) (h.s ⟨h2, by omega⟩)
    · exact ih _ _ _ _ (by omega) (by omega) h
theorem AK.get {c k : Int} (h : AK B f g) (hB : 1000 ≤ B ∧ B ≤ 8000000) (hc : 0 ≤ c ∧ c < 6) (hk : 0 ≤ k ∧ k < 10) : (wGet f c k).1 = (spGet g c k).1 ∧ AK (B + 1000) (wGet f c k).2 (spGet g c k).2 ∧ r32 (spGet g c k).1 := by
  have q := A_get (c := c) (k := k) h hB
  unfold cGet rGet at q
  rw [if_pos hc, if_pos (show 0 ≤ c ∧ c ≤ 5 by omega), if_pos hk, if_pos (show 0 ≤ k ∧ k ≤ 9 by omega)] at q
  exact ⟨q.1, q.2.1, q.2.2.2⟩
theorem AK.look {c : Int} (h : AK B f g) (hB : 1000 ≤ B ∧ B ≤ 8000000) (hc : 0 ≤ c ∧ c < 6) : (wLook f c).1 = (spLook g c).1 ∧ AK (B + 1000) (wLook f c).2 (spLook g c).2 := by
  have q := A_look (c := c) h hB
  unfold cLook rLook at q
  rw [if_pos hc, if_pos (show 0 ≤ c ∧ c ≤ 5 by omega)] at q
  exact ⟨q.1, q.2.1⟩
theorem AK.fill {c : Int} (h : AK B f g) (hB : 1000 ≤ B ∧ B ≤ 8000000) (hc : 0 ≤ c ∧ c < 6) : (wFill f c).1 = (spFill g c).1 ∧ AK (B + 1000) (wFill f c).2 (spFill g c).2 := by
  have q := A_fill (c := c) h hB
  unfold cFill rFill at q
  rw [if_pos hc, if_pos (show 0 ≤ c ∧ c ≤ 5 by omega)] at q
  exact ⟨q.1, q.2.1⟩
theorem hf_eq {c k : Int} (h : AK B f g) (hc : 0 ≤ c ∧ c < 6) (hk : 0 ≤ k) : wHf f c k = rHf g c k := by
  have q := h.1.1.H c hc
  unfold wHf rHf
  (repeat' split) <;> omega
theorem stO_eq {k tk : Int} (hk : 0 ≤ k ∧ k < 10) : ∀ (m : Nat) (c : Int) (w f g : Int → Int) (B : Int), c + m = 6 → 0 ≤ c → AK B f g → 1000 ≤ B → B + 1000 * m ≤ 8000000 → (cO k tk m c w f).1 = (rO k tk m c w g).1 ∧ AK (B + 1000 * m) (cO k tk m c w f).2 (rO k tk m c w g).2 := by
  intro m
  induction m with
  | zero => intro c w f g B _ _ h _ _; exact ⟨rfl, h.up (by omega)⟩
  | succ m ih =>
    intro c w f g B h1 h2 h hB hBB
    unfold cO rO stO
    split
    · have q := h.get (c := c) (k := k) (by omega) (by omega) hk
      rw [q.1]
      have z := ih (c + 1) (if 0 ≤ (spGet g c k).1 ∧ ((spGet g c k).1 < 1000 ∨ tk = 1) then ud w c 0 else w) _ _ (B + 1000) (by omega) (by omega) q.2.1 (by omega) (by omega)
      exact ⟨z.1, z.2.up (by omega)⟩
    · have z := ih (c + 1) w f g B (by omega) (by omega) h hB (by omega)
      exact ⟨z.1, z.2.up (by omega)⟩
theorem stK_eq {k : Int} (hk : 0 ≤ k ∧ k < 10) : ∀ (m : Nat) (c : Int) (w lk f g : Int → Int) (B : Int), c + m = 6 → 0 ≤ c → AK B f g → 1000 ≤ B → B + 1000 * m ≤ 8000000 → (cL k m c w lk f).1 = (rL k m c w lk g).1 ∧ AK (B + 1000 * m) (cL k m c w lk f).2 (rL k m c w lk g).2 := by
  intro m
  induction m with
  | zero => intro c w lk f g B _ _ h _ _; exact ⟨rfl, h.up (by omega)⟩
  | succ m ih =>
    intro c w lk f g B h1 h2 h hB hBB
    have e := hf_eq (c := c) (k := k) h (by omega) hk.1
    unfold cL rL stK
    rw [e]
    split
    · have q := h.look (c := c) (by omega) (by omega)
      have z := ih (c + 1) w (ud lk c 1) _ _ (B + 1000) (by omega) (by omega) q.2 (by omega) (by omega)
      exact ⟨z.1, z.2.up (by omega)⟩
    · have z := ih (c + 1) w lk f g B (by omega) (by omega) h hB (by omega)
      exact ⟨z.1, z.2.up (by omega)⟩
theorem stF_eq : ∀ (m : Nat) (c : Int) (lk f g : Int → Int) (B : Int), c + m = 6 → 0 ≤ c → AK B f g → 1000 ≤ B → B + 1000 * m ≤ 8000000 → AK (B + 1000 * m) (cFl m c lk f) (rFl m c lk g) := by
  intro m
  induction m with
  | zero => intro c lk f g B _ _ h _ _; exact h.up (by omega)
  | succ m ih =>
    intro c lk f g B h1 h2 h hB hBB
    unfold cFl rFl stF
    split
    · have q := h.fill (c := c) (by omega) (by omega)
      exact (ih (c + 1) lk _ _ (B + 1000) (by omega) (by omega) q.2 (by omega) (by omega)).up (by omega)
    · exact (ih (c + 1) lk f g B (by omega) (by omega) h hB (by omega)).up (by omega)
theorem rnd_eq {k tk : Int} (hk : 0 ≤ k ∧ k < 10) (h : AK B f g) (hB : 1000 ≤ B) (hBB : B + 18000 ≤ 8000000) : (cRnd k tk w f).1 = (rRnd k tk w g).1 ∧ AK (B + 18000) (cRnd k tk w f).2 (rRnd k tk w g).2 := by
  have a := stO_eq (tk := tk) hk 6 0 w f g B (by omega) (by omega) h hB (by omega)
  have b := stK_eq hk 6 0 (cO k tk 6 0 w f).1 z0 _ _ (B + 1000 * ((6 : Nat) : Int)) (by omega) (by omega) a.2 (by omega) (by omega)
  have c := stF_eq 6 0 (cL k 6 0 (cO k tk 6 0 w f).1 z0 (cO k tk 6 0 w f).2).1 _ _ (B + 1000 * ((6 : Nat) : Int) + 1000 * ((6 : Nat) : Int)) (by omega) (by omega) b.2 (by omega) (by omega)
  unfold cRnd rRnd
  dsimp only
  rw [a.1] at b c ⊢
  rw [b.1] at c ⊢
  exact ⟨rfl, c.up (by omega)⟩
theorem stR_eq {k tk : Int} (hk : 0 ≤ k ∧ k < 10) : ∀ (m : Nat) (n : Int) (w f g : Int → Int) (B : Int), AK B f g → 1000 ≤ B → B + 18000 * m ≤ 8000000 → (stR (cRnd k tk) m n w f).1 = (stR (rRnd k tk) m n w g).1 ∧ (stR (cRnd k tk) m n w f).2.1 = (stR (rRnd k tk) m n w g).2.1 ∧ AK (B + 18000 * m) (stR (cRnd k tk) m n w f).2.2 (stR (rRnd k tk) m n w g).2.2 := by
  intro m
  induction m with
  | zero => intro n w f g B h _ _; exact ⟨rfl, rfl, h.up (by omega)⟩
  | succ m ih =>
    intro n w f g B h hB hBB
    unfold stR
    split
    · exact ⟨rfl, rfl, h.up (by omega)⟩
    · have q := rnd_eq (w := w) (tk := tk) hk h hB (by omega)
      rw [q.1]
      have z := ih (n + 1) (rRnd k tk w g).1 _ _ (B + 18000) q.2 (by omega) (by omega)
      exact ⟨z.1, z.2.1, z.2.2.up (by omega)⟩
theorem wRnd {k tk : Int} (h : WB w) : WB (cRnd k tk w f).1 ∧ WB (rRnd k tk w g).1 := ⟨WB.m (stO_wb 6 0 w f h), WB.m (stO_wb 6 0 w g h)⟩
theorem stR_wb {G : (Int → Int) → (Int → Int) → (Int → Int) × (Int → Int)} (hG : ∀ w f, WB w → WB (G w f).1) : ∀ (m : Nat) (n : Int) (w f : Int → Int), WB w → WB (stR G m n w f).2.1 ∧ n ≤ (stR G m n w f).1 ∧ (stR G m n w f).1 ≤ n + m := by
  intro m
  induction m with
  | zero => intro n w f h; exact ⟨h, Int.le_refl _, by show n ≤ n + ((0 : Nat) : Int); omega⟩
  | succ m ih =>
    intro n w f h
    unfold stR
    split
    · dsimp only; exact ⟨h, by omega, by omega⟩
    · have := ih (n + 1) _ (G w f).2 (hG w f h); exact ⟨this.1, by omega, by omega⟩
-- bits of a set of clients
theorem sr_fin : ∀ k : Fin 6, ∀ n : Fin 64, Int32.ofInt (n.val : Int) >>> (Int32.ofInt (k.val : Int) &&& 31) = Int32.ofInt ((n.val : Int) / pw (k.val : Int)) ∧ Int32.ofInt ((n.val : Int) / pw (k.val : Int)) &&& Int32.ofInt 1 = Int32.ofInt ((n.val : Int) / pw (k.val : Int) % 2) := by decide +kernel
theorem sr_x {x c : Int} (hx : 0 ≤ x ∧ x < 64) (hc : 0 ≤ c ∧ c < 6) : Int32.ofInt x >>> (Int32.ofInt c &&& 31) = Int32.ofInt (x / pw c) ∧ Int32.ofInt (x / pw c) &&& Int32.ofInt 1 = Int32.ofInt (x / pw c % 2) := by
  have e := sr_fin ⟨c.toNat, by omega⟩ ⟨x.toNat, by omega⟩
  have e1 : ((c.toNat : Nat) : Int) = c := by omega
  have e2 : ((x.toNat : Nat) : Int) = x := by omega
  simp only [e1, e2] at e
  exact e
theorem sr_bs {c : Int} (h : WB w) (hc : 0 ≤ c ∧ c < 6) : Int32.ofInt (bs w) >>> (Int32.ofInt c &&& 31) = Int32.ofInt (bs w / pw c) := (sr_x h.r hc).1
theorem s1_bs {c : Int} (h : WB w) (hc : 0 ≤ c ∧ c < 6) : Int32.ofInt (bs w / pw c) &&& Int32.ofInt 1 = Int32.ofInt (w c) := by
  have e := (sr_x h.r hc).2
  rw [bs_bit h.b (by omega)] at e
  exact e
def mk6 (x y : Int) : Int := (if y / 1 % 2 = 1 then 0 else x / 1 % 2) + 2 * (if y / 2 % 2 = 1 then 0 else x / 2 % 2) + 4 * (if y / 4 % 2 = 1 then 0 else x / 4 % 2) + 8 * (if y / 8 % 2 = 1 then 0 else x / 8 % 2) + 16 * (if y / 16 % 2 = 1 then 0 else x / 16 % 2) + 32 * (if y / 32 % 2 = 1 then 0 else x / 32 % 2)
theorem am_fin : ∀ x : Fin 64, ∀ y : Fin 64, Int32.ofInt (x.val : Int) &&& Int32.ofInt (-(y.val : Int) - 1) = Int32.ofInt (mk6 x.val y.val) := by decide +kernel
theorem xr_fin : ∀ y : Fin 64, Int32.ofInt (y.val : Int) ^^^ Int32.ofInt (-1) = Int32.ofInt (-(y.val : Int) - 1) := by decide +kernel
theorem xr_bs (h : WB w) : Int32.ofInt (bs w) ^^^ Int32.ofInt (-1) = Int32.ofInt (-bs w - 1) := by
  have r := h.r
  have e := xr_fin ⟨(bs w).toNat, by omega⟩
  have e2 : (((bs w).toNat : Nat) : Int) = bs w := by omega
  simp only [e2] at e
  exact e
theorem am_bs (h : WB w) (hl : WB lk) : Int32.ofInt (bs w) &&& Int32.ofInt (-bs lk - 1) = Int32.ofInt (bs (wmL w lk)) := by
  have r := h.r
  have r2 := hl.r
  have e := am_fin ⟨(bs w).toNat, by omega⟩ ⟨(bs lk).toNat, by omega⟩
  have e1 : (((bs w).toNat : Nat) : Int) = bs w := by omega
  have e2 : (((bs lk).toNat : Nat) : Int) = bs lk := by omega
  simp only [e1, e2] at e
  rw [e]
  congr 1
  have q : ∀ (v : Int → Int), WB v → bs v / 1 % 2 = v 0 ∧ bs v / 2 % 2 = v 1 ∧ bs v / 4 % 2 = v 2 ∧ bs v / 8 % 2 = v 3 ∧ bs v / 16 % 2 = v 4 ∧ bs v / 32 % 2 = v 5 := fun v hv =>
    ⟨bs_bit (k := 0) hv.b (by omega), bs_bit (k := 1) hv.b (by omega), bs_bit (k := 2) hv.b (by omega), bs_bit (k := 3) hv.b (by omega), bs_bit (k := 4) hv.b (by omega), bs_bit (k := 5) hv.b (by omega)⟩
  have a := q w h
  have b := q lk hl
  have wz : ∀ j, 6 ≤ j → wmL w lk j = 0 := fun j hj => WB.z (WB.m (lk := lk) h) hj
  unfold mk6
  rw [a.1, a.2.1, a.2.2.1, a.2.2.2.1, a.2.2.2.2.1, a.2.2.2.2.2, b.1, b.2.1, b.2.2.1, b.2.2.2.1, b.2.2.2.2.1, b.2.2.2.2.2]
  unfold bs
  rw [wz 6 (by omega), wz 7 (by omega), wz 8 (by omega), wz 9 (by omega)]
  unfold wmL
  omega
theorem bs_0 : bs z0 = 0 := rfl
/-- a set of clients out of its number -/
def clF (x : Int) : Int → Int := fun c => if 0 ≤ c ∧ c < 6 then x / pw c % 2 else 0
theorem clF_wb {x : Int} : WB (clF x) := fun j => by
  unfold clF
  split
  · rename_i h
    rcases (by omega : x / pw j % 2 = 0 ∨ x / pw j % 2 = 1) with e | e
    · exact Or.inl e
    · exact Or.inr ⟨e, h⟩
  · exact Or.inl rfl
theorem clF_bs {x : Int} (hx : 0 ≤ x ∧ x < 64) : bs (clF x) = x := by
  unfold bs
  rw [show clF x 6 = 0 from rfl, show clF x 7 = 0 from rfl, show clF x 8 = 0 from rfl, show clF x 9 = 0 from rfl, show clF x 0 = x / 1 % 2 from rfl, show clF x 1 = x / 2 % 2 from rfl, show clF x 2 = x / 4 % 2 from rfl, show clF x 3 = x / 8 % 2 from rfl, show clF x 4 = x / 16 % 2 from rfl, show clF x 5 = x / 32 % 2 from rfl]
  omega
end ST
