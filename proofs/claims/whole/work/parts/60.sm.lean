/-! what the reference's row keeps to; how the two rows belong together -/
def CellM (B j x : Int) : Prop := (-1 ≤ x ∧ x ≤ B) ∧ ((j = 0 ∨ j = 1 ∨ 13 ≤ j ∧ j < 36 ∨ 216 ≤ j ∧ j < 972) → 0 ≤ x) ∧ (j = 2 ∨ 10 ≤ j ∧ j < 13 ∨ 942 ≤ j ∧ j < 972 → 0 ≤ x ∧ x ≤ 60) ∧
  (j = 3 → 1 ≤ x ∧ x ≤ 8) ∧ (j = 4 → 1 ≤ x ∧ x ≤ 99) ∧ (j = 5 → 0 ≤ x ∧ x ≤ 20) ∧ (j = 6 → 1 ≤ x ∧ x ≤ 20) ∧ (j = 7 → 0 ≤ x ∧ x ≤ 20) ∧ (j = 8 → 0 ≤ x ∧ x ≤ 3) ∧ (j = 9 → 0 ≤ x ∧ x ≤ 1) ∧
  (36 ≤ j ∧ j < 216 → 0 ≤ x ∧ ((j - 36) % 3 = 0 → x ≤ 9) ∧ ((j - 36) % 3 = 1 → x ≤ 999) ∧ ((j - 36) % 3 = 2 → x ≤ 5)) ∧ (216 ≤ j ∧ j < 222 → x ≤ 1) ∧
  (222 ≤ j ∧ j < 582 → ((j - 222) % 6 = 1 → x ≤ 999) ∧ ((j - 222) % 6 = 2 → x ≤ 60)) ∧ (582 ≤ j ∧ j < 702 ∧ (j - 582) % 2 = 1 → x ≤ 999) ∧ (702 ≤ j ∧ j < 882 ∧ (j - 702) % 3 = 1 → x ≤ 5) ∧
  (972 ≤ j ∧ j < 1014 → ((j - 972) % 7 = 0 → 0 ≤ x ∧ x ≤ 5) ∧ ((j - 972) % 7 = 1 → x ≤ 9) ∧ ((j - 972) % 7 = 2 → 0 ≤ x) ∧ ((j - 972) % 7 = 3 → 0 ≤ x ∧ x ≤ 1) ∧ ((j - 972) % 7 = 4 → 0 ≤ x ∧ x ≤ 999) ∧ ((j - 972) % 7 = 5 → 0 ≤ x ∧ x ≤ 60) ∧ ((j - 972) % 7 = 6 → 0 ≤ x ∧ x ≤ 1))
/-- cell by cell -/
def IM (B : Int) (g : Int → Int) : Prop := ∀ j, CellM B j (g j)
section SM
variable {f g : Int → Int} {B : Int}
theorem IM.b (hI : IM B g) (j : Int) : -1 ≤ g j ∧ g j ≤ B := (hI j).1
theorem IM.bd (hI : IM B g) : Bd B g := fun j => (hI j).1
theorem IM.up {C : Int} (hI : IM B g) (h : B ≤ C) : IM C g := fun j => ⟨⟨(hI j).1.1, by have := (hI j).1.2; omega⟩, (hI j).2⟩
theorem IM.wr {i x : Int} (hI : IM B g) (hx : CellM B i x) : IM B (ud g i x) := fun j => by
  unfold ud
  split
  · rename_i e; subst e; exact hx
  · exact hI j
theorem IM.n0 (hI : IM B g) {j : Int} (h : j = 0 ∨ j = 1 ∨ 13 ≤ j ∧ j < 36 ∨ 216 ≤ j ∧ j < 972) : 0 ≤ g j := (hI j).2.1 h
theorem IM.n60 (hI : IM B g) {j : Int} (h : j = 2 ∨ 10 ≤ j ∧ j < 13 ∨ 942 ≤ j ∧ j < 972) : 0 ≤ g j ∧ g j ≤ 60 := (hI j).2.2.1 h
theorem IM.set (hI : IM B g) : (1 ≤ g 3 ∧ g 3 ≤ 8) ∧ (1 ≤ g 4 ∧ g 4 ≤ 99) ∧ (0 ≤ g 5 ∧ g 5 ≤ 20) ∧ (1 ≤ g 6 ∧ g 6 ≤ 20) ∧ (0 ≤ g 7 ∧ g 7 ≤ 20) ∧ (0 ≤ g 8 ∧ g 8 ≤ 3) ∧ (0 ≤ g 9 ∧ g 9 ≤ 1) :=
  ⟨(hI 3).2.2.2.1 rfl, (hI 4).2.2.2.2.1 rfl, (hI 5).2.2.2.2.2.1 rfl, (hI 6).2.2.2.2.2.2.1 rfl, (hI 7).2.2.2.2.2.2.2.1 rfl, (hI 8).2.2.2.2.2.2.2.2.1 rfl, (hI 9).2.2.2.2.2.2.2.2.2.1 rfl⟩
theorem IM.jr (hI : IM B g) {n : Int} (h : 1 ≤ n ∧ n ≤ 60) : (0 ≤ g (36 + 3 * (n - 1)) ∧ g (36 + 3 * (n - 1)) ≤ 9) ∧ (0 ≤ g (36 + 3 * (n - 1) + 1) ∧ g (36 + 3 * (n - 1) + 1) ≤ 999) ∧ (0 ≤ g (36 + 3 * (n - 1) + 2) ∧ g (36 + 3 * (n - 1) + 2) ≤ 5) := by
  have a := (hI (36 + 3 * (n - 1))).2.2.2.2.2.2.2.2.2.2.1 (by omega)
  have b := (hI (36 + 3 * (n - 1) + 1)).2.2.2.2.2.2.2.2.2.2.1 (by omega)
  have c := (hI (36 + 3 * (n - 1) + 2)).2.2.2.2.2.2.2.2.2.2.1 (by omega)
  exact ⟨⟨a.1, a.2.1 (by omega)⟩, ⟨b.1, b.2.2.1 (by omega)⟩, ⟨c.1, c.2.2.2 (by omega)⟩⟩
theorem IM.cl (hI : IM B g) {c : Int} (h : 0 ≤ c ∧ c < 6) : (0 ≤ g (hA c + 0) ∧ g (hA c + 0) < 6) ∧ (-1 ≤ g (hA c + 1) ∧ g (hA c + 1) < 10) ∧ 0 ≤ g (hA c + 2) ∧ (0 ≤ g (hA c + 3) ∧ g (hA c + 3) ≤ 1) ∧ (0 ≤ g (hA c + 4) ∧ g (hA c + 4) ≤ 999) ∧ (0 ≤ g (hA c + 5) ∧ g (hA c + 5) ≤ 60) ∧ (0 ≤ g (hA c + 6) ∧ g (hA c + 6) ≤ 1) := by
  have k : ∀ i : Int, 0 ≤ i ∧ i < 7 → _ := fun i hi => (hI (hA c + i)).2.2.2.2.2.2.2.2.2.2.2.2.2.2.2 (by unfold hA; omega)
  have a0 := (k 0 (by omega)).1 (by unfold hA; omega)
  have a1 := (k 1 (by omega)).2.1 (by unfold hA; omega)
  have a2 := (k 2 (by omega)).2.2.1 (by unfold hA; omega)
  have a3 := (k 3 (by omega)).2.2.2.1 (by unfold hA; omega)
  have a4 := (k 4 (by omega)).2.2.2.2.1 (by unfold hA; omega)
  have a5 := (k 5 (by omega)).2.2.2.2.2.1 (by unfold hA; omega)
  have a6 := (k 6 (by omega)).2.2.2.2.2.2 (by unfold hA; omega)
  have b1 := hI.b (hA c + 1)
  omega
theorem IM.co (hI : IM B g) {a : Int} (h : 0 ≤ a ∧ a < 6) : 0 ≤ g (216 + a) ∧ g (216 + a) ≤ 1 := ⟨(hI _).2.1 (by omega), (hI (216 + a)).2.2.2.2.2.2.2.2.2.2.2.1 (by omega)⟩
theorem IM.en (hI : IM B g) {a k : Int} (h : 0 ≤ a ∧ a < 6) (h2 : 0 ≤ k ∧ k < 10) : 0 ≤ g (eA a k) ∧ (0 ≤ g (eA a k + 1) ∧ g (eA a k + 1) ≤ 999) ∧ (0 ≤ g (eA a k + 2) ∧ g (eA a k + 2) ≤ 60) ∧ 0 ≤ g (eA a k + 3) ∧ 0 ≤ g (eA a k + 4) ∧ 0 ≤ g (eA a k + 5) := by
  have hb := eA_b h h2
  have v := (hI (eA a k + 1)).2.2.2.2.2.2.2.2.2.2.2.2.1 (by omega)
  have w := (hI (eA a k + 2)).2.2.2.2.2.2.2.2.2.2.2.2.1 (by omega)
  exact ⟨hI.n0 (by omega), ⟨hI.n0 (by omega), v.1 (by unfold eA; omega)⟩, ⟨hI.n0 (by omega), w.2 (by unfold eA; omega)⟩, hI.n0 (by omega), hI.n0 (by omega), hI.n0 (by omega)⟩
theorem IM.ol (hI : IM B g) {a k : Int} (h : 0 ≤ a ∧ a < 6) (h2 : 0 ≤ k ∧ k < 10) : 0 ≤ g (oA a k) ∧ (0 ≤ g (oA a k + 1) ∧ g (oA a k + 1) ≤ 999) := by
  have hb := oA_b h h2
  exact ⟨hI.n0 (by omega), hI.n0 (by omega), (hI (oA a k + 1)).2.2.2.2.2.2.2.2.2.2.2.2.2.1 (by unfold oA; omega)⟩
theorem IM.le (hI : IM B g) {a k : Int} (h : 0 ≤ a ∧ a < 6) (h2 : 0 ≤ k ∧ k < 10) : 0 ≤ g (lA a k) ∧ (0 ≤ g (lA a k + 1) ∧ g (lA a k + 1) ≤ 5) ∧ 0 ≤ g (lA a k + 2) ∧ 0 ≤ g (dA a k) := by
  have hb := lA_b h h2
  have hb2 := dA_b h h2
  exact ⟨hI.n0 (by omega), ⟨hI.n0 (by omega), (hI (lA a k + 1)).2.2.2.2.2.2.2.2.2.2.2.2.2.2.1 (by unfold lA; omega)⟩, hI.n0 (by omega), hI.n0 (by omega)⟩
-- cells that are written
theorem cm_hi {c i x : Int} (h : 0 ≤ c ∧ c < 6) (hi : 0 ≤ i ∧ i < 7) (hx : -1 ≤ x ∧ x ≤ B) (h0 : i = 0 → 0 ≤ x ∧ x ≤ 5) (h1 : i = 1 → x ≤ 9) (h2 : i = 2 → 0 ≤ x) (h3 : i = 3 ∨ i = 6 → 0 ≤ x ∧ x ≤ 1) (h4 : i = 4 → 0 ≤ x ∧ x ≤ 999) (h5 : i = 5 → 0 ≤ x ∧ x ≤ 60) : CellM B (hA c + i) x := by
  unfold CellM hA
  refine ⟨hx, ?_⟩
  omega
theorem cm_en {a k i x : Int} (h : 0 ≤ a ∧ a < 6) (h2 : 0 ≤ k ∧ k < 10) (hi : 0 ≤ i ∧ i < 6) (hx : 0 ≤ x ∧ x ≤ B) (h1 : i = 1 → x ≤ 999) (h3 : i = 2 → x ≤ 60) : CellM B (eA a k + i) x := by
  unfold CellM eA
  refine ⟨by omega, ?_⟩
  omega
theorem cm_e0 {a k x : Int} (h : 0 ≤ a ∧ a < 6) (h2 : 0 ≤ k ∧ k < 10) (hx : 0 ≤ x ∧ x ≤ B) : CellM B (eA a k) x := by
  unfold CellM eA
  refine ⟨by omega, ?_⟩
  omega
theorem cm_ol {a k i x : Int} (h : 0 ≤ a ∧ a < 6) (h2 : 0 ≤ k ∧ k < 10) (hi : 0 ≤ i ∧ i < 2) (hx : 0 ≤ x ∧ x ≤ B) (h1 : i = 1 → x ≤ 999) : CellM B (oA a k + i) x := by
  unfold CellM oA
  refine ⟨by omega, ?_⟩
  omega
theorem cm_o0 {a k x : Int} (h : 0 ≤ a ∧ a < 6) (h2 : 0 ≤ k ∧ k < 10) (hx : 0 ≤ x ∧ x ≤ B) : CellM B (oA a k) x := by
  unfold CellM oA
  refine ⟨by omega, ?_⟩
  omega
theorem cm_le {a k i x : Int} (h : 0 ≤ a ∧ a < 6) (h2 : 0 ≤ k ∧ k < 10) (hi : 0 ≤ i ∧ i < 3) (hx : 0 ≤ x ∧ x ≤ B) (h1 : i = 1 → x ≤ 5) : CellM B (lA a k + i) x := by
  unfold CellM lA
  refine ⟨by omega, ?_⟩
  omega
theorem cm_l0 {a k x : Int} (h : 0 ≤ a ∧ a < 6) (h2 : 0 ≤ k ∧ k < 10) (hx : 0 ≤ x ∧ x ≤ B) : CellM B (lA a k) x := by
  unfold CellM lA
  refine ⟨by omega, ?_⟩
  omega
theorem cm_ho {a k x : Int} (h : 0 ≤ a ∧ a < 6) (h2 : 0 ≤ k ∧ k < 10) (hx : 0 ≤ x ∧ x ≤ B) : CellM B (dA a k) x := by
  unfold CellM dA
  refine ⟨by omega, ?_⟩
  omega
theorem cm_ct {j x : Int} (h : j = 0 ∨ j = 1 ∨ 13 ≤ j ∧ j < 36) (hx : 0 ≤ x ∧ x ≤ B) : CellM B j x := by
  unfold CellM
  refine ⟨by omega, ?_⟩
  omega
/-- how the rows belong together; x: equal, or both are over -/
def EA (n x y : Int) : Prop := x = y ∨ 0 ≤ x ∧ x ≤ n ∧ y ≤ n
def SmA (f g : Int → Int) : Prop := f 0 = g 0 ∧ f 1 = g 2 ∧ f 2 = g 1
def SmT (f g : Int → Int) : Prop := ∀ i, 0 ≤ i ∧ i < 7 ∧ i ≠ 5 → f (3 + i) = g (3 + i)
def SmL (f g : Int → Int) : Prop := ∀ i, 0 ≤ i ∧ i < 10 ∧ i ≠ 4 → f (10 + i) = g (16 + i)
def SmE (f g : Int → Int) : Prop := ∀ k, 0 ≤ k ∧ k < 10 → f (20 + k) = g (26 + k)
def SmP (f g : Int → Int) : Prop := ∀ r, 0 ≤ r ∧ r < 3 → f (30 + r) = g (10 + r)
def SmO (f g : Int → Int) : Prop := ∀ r, 0 ≤ r ∧ r < 3 → f (33 + r) = g (13 + r)
def SmC (f g : Int → Int) : Prop := ∀ a, 0 ≤ a ∧ a < 6 → f (36 + a) = g (216 + a)
def SmM (f g : Int → Int) : Prop := ∀ r k, 0 ≤ r ∧ r < 3 → 0 ≤ k ∧ k < 10 → f (42 + r * 10 + k) = g (942 + 10 * r + k)
def SmV (f g : Int → Int) : Prop := ∀ r k, 0 ≤ r ∧ r < 3 → 0 ≤ k ∧ k < 10 → f (72 + r * 10 + k) = lastI g k (g (10 + r))
def SmW (f g : Int → Int) : Prop := ∀ k, 0 ≤ k ∧ k < 10 → f (102 + k) = lastI g k (g 2)
def SmJ (f g : Int → Int) : Prop := ∀ n i, 1 ≤ n ∧ n ≤ 60 → 0 ≤ i ∧ i < 3 → f (jA n + i) = g (36 + 3 * (n - 1) + i)
def SmH (f g : Int → Int) : Prop := ∀ c, 0 ≤ c ∧ c < 6 → f (cA c + 0) = g (hA c + 0) ∧ f (cA c + 2) = g (hA c + 2) ∧ f (cA c + 4) = g (hA c + 4) ∧ f (cA c + 5) = g (hA c + 5) ∧ f (cA c + 6) = g (hA c + 6) ∧ (0 ≤ f (cA c + 1) ∧ f (cA c + 1) ≤ 9) ∧
  (g (hA c + 1) = -1 ∧ f (cA c + 7) = 0 ∧ f (cA c + 3) = 0 ∨ 0 ≤ g (hA c + 1) ∧ f (cA c + 7) = 1 ∧ f (cA c + 1) = g (hA c + 1) ∧ f (cA c + 3) = g (hA c + 3))
def SmS (f g : Int → Int) : Prop := ∀ a k, 0 ≤ a ∧ a < 6 → 0 ≤ k ∧ k < 10 → f (sA a k + 0) = g (eA a k + 1) ∧ f (sA a k + 1) = g (eA a k + 2) ∧ f (sA a k + 2) = g (eA a k + 3) ∧ f (sA a k + 3) = g (eA a k + 4) ∧ f (sA a k + 4) = g (eA a k + 5) ∧
  EA (g 0) (f (sA a k + 5)) (g (eA a k)) ∧ f (sA a k + 6) = g (oA a k + 1) ∧ EA (g 0) (f (sA a k + 7)) (g (oA a k)) ∧ f (sA a k + 8) = g (lA a k + 1) ∧ f (sA a k + 9) = g (lA a k + 2) ∧ EA (g 0) (f (sA a k + 10)) (g (lA a k)) ∧ EA (g 0) (f (sA a k + 11)) (g (dA a k))
def SmZ (f : Int → Int) : Prop := ∀ j, j < 0 ∨ 1060 ≤ j → f j = 0
/-- all but FILLS done and POLICY -/
def Sm0 (f g : Int → Int) : Prop := SmA f g ∧ SmT f g ∧ SmL f g ∧ SmE f g ∧ SmP f g ∧ SmO f g ∧ SmC f g ∧ SmM f g ∧ SmV f g ∧ SmW f g ∧ SmJ f g ∧ SmH f g ∧ SmS f g ∧ SmZ f
def Sm (f g : Int → Int) : Prop := Sm0 f g ∧ f 8 = g 8 ∧ f 14 = g 20
theorem Sm0.A (h : Sm0 f g) : SmA f g := h.1
theorem Sm0.T (h : Sm0 f g) : SmT f g := h.2.1
theorem Sm0.L (h : Sm0 f g) : SmL f g := h.2.2.1
theorem Sm0.E (h : Sm0 f g) : SmE f g := h.2.2.2.1
theorem Sm0.P (h : Sm0 f g) : SmP f g := h.2.2.2.2.1
theorem Sm0.O (h : Sm0 f g) : SmO f g := h.2.2.2.2.2.1
theorem Sm0.C (h : Sm0 f g) : SmC f g := h.2.2.2.2.2.2.1
theorem Sm0.M (h : Sm0 f g) : SmM f g := h.2.2.2.2.2.2.2.1
theorem Sm0.V (h : Sm0 f g) : SmV f g := h.2.2.2.2.2.2.2.2.1
theorem Sm0.W (h : Sm0 f g) : SmW f g := h.2.2.2.2.2.2.2.2.2.1
theorem Sm0.J (h : Sm0 f g) : SmJ f g := h.2.2.2.2.2.2.2.2.2.2.1
theorem Sm0.H (h : Sm0 f g) : SmH f g := h.2.2.2.2.2.2.2.2.2.2.2.1
theorem Sm0.S (h : Sm0 f g) : SmS f g := h.2.2.2.2.2.2.2.2.2.2.2.2.1
theorem Sm0.Z (h : Sm0 f g) : SmZ f := h.2.2.2.2.2.2.2.2.2.2.2.2.2
theorem lastL_cong {g g' : Int → Int} {k : Int} (H : ∀ n, 1 ≤ n ∧ n ≤ 60 → g' (36 + 3 * (n - 1)) = g (36 + 3 * (n - 1))) : ∀ (m : Nat) (n : Int), n ≤ 60 → lastL g' k m n = lastL g k m n := by
  intro m
  induction m with
  | zero => intro n h; rfl
  | succ m ih =>
    intro n h
    unfold lastL
    split
    · rfl
    · rw [H n ⟨by omega, h⟩, ih (n + -1) (by omega)]
theorem lastI_cong {g g' : Int → Int} {k n : Int} (H : ∀ n, 1 ≤ n ∧ n ≤ 60 → g' (36 + 3 * (n - 1)) = g (36 + 3 * (n - 1))) (h : n ≤ 60) : lastI g' k n = lastI g k n := lastL_cong H 60 n h
/-- what follows for a class' row -/
theorem Sm.iw (h : Sm f g) (hI : IM B g) (hB : 1000 ≤ B) : IW B f := fun j => by
  obtain ⟨h0, h8, h14⟩ := h
  have st := hI.set
  have n0 := hI.n0 (j := 0) (by omega)
  have b0 := hI.b 0
  rcases Decidable.em (j < 0 ∨ 1060 ≤ j) with z | z
  · rw [h0.Z j z]; unfold CellW; omega
  rcases Decidable.em (j < 3) with c | c
  · have a := h0.A
    have b1 := hI.n0 (j := 1) (by omega)
    have b2 := hI.n60 (j := 2) (by omega)
    have b3 := hI.b 1
    rcases (by omega : j = 0 ∨ j = 1 ∨ j = 2) with rfl | rfl | rfl
    · rw [a.1]; unfold CellW; omega
    · rw [a.2.1]; unfold CellW; omega
    · rw [a.2.2]; unfold CellW; omega
  rcases Decidable.em (j < 10) with c2 | c2
  · have k : f j = g j := by
      rcases Decidable.em (j = 8) with e | e
      · rw [e]; exact h8
      · have := h0.T (j - 3) (by omega)
        rw [show (3 : Int) + (j - 3) = j by omega] at this
        exact this
    have e : 0 ≤ f j ∧ f j ≤ 99 := by
      rw [k]
      rcases (by omega : j = 3 ∨ j = 4 ∨ j = 5 ∨ j = 6 ∨ j = 7 ∨ j = 8 ∨ j = 9) with rfl | rfl | rfl | rfl | rfl | rfl | rfl <;> omega
    unfold CellW
    omega
  rcases Decidable.em (j < 20) with c3 | c3
  · have k : f j = g (j + 6) := by
      rcases Decidable.em (j = 14) with e | e
      · rw [e]; exact h14
      · have := h0.L (j - 10) (by omega)
        rw [show (10 : Int) + (j - 10) = j by omega, show (16 : Int) + (j - 10) = j + 6 by omega] at this
        exact this
    have b1 := hI.n0 (j := j + 6) (by omega)
    have b2 := hI.b (j + 6)
    unfold CellW
    omega
  rcases Decidable.em (j < 30) with c4 | c4
  · have := h0.E (j - 20) (by omega)
    rw [show (20 : Int) + (j - 20) = j by omega] at this
    have b1 := hI.n0 (j := 26 + (j - 20)) (by omega)
    have b2 := hI.b (26 + (j - 20))
    unfold CellW
    omega
  rcases Decidable.em (j < 33) with c5 | c5
  · have := h0.P (j - 30) (by omega)
    rw [show (30 : Int) + (j - 30) = j by omega] at this
    have b1 := hI.n60 (j := 10 + (j - 30)) (by omega)
    unfold CellW
    omega
  rcases Decidable.em (j < 36) with c6 | c6
  · have := h0.O (j - 33) (by omega)
    rw [show (33 : Int) + (j - 33) = j by omega] at this
    have b1 := hI.n0 (j := 13 + (j - 33)) (by omega)
    have b2 := hI.b (13 + (j - 33))
    unfold CellW
    omega
  rcases Decidable.em (j < 42) with c7 | c7
  · have := h0.C (j - 36) (by omega)
    rw [show (36 : Int) + (j - 36) = j by omega] at this
    have b1 := hI.co (a := j - 36) (by omega)
    unfold CellW
    omega
  rcases Decidable.em (j < 72) with c8 | c8
  · have := h0.M ((j - 42) / 10) ((j - 42) % 10) (by omega) (by omega)
    rw [show (42 : Int) + (j - 42) / 10 * 10 + (j - 42) % 10 = j by omega] at this
    have b1 := hI.n60 (j := 942 + 10 * ((j - 42) / 10) + (j - 42) % 10) (by omega)
    unfold CellW
    omega
  rcases Decidable.em (j < 102) with c9 | c9
  · have := h0.V ((j - 72) / 10) ((j - 72) % 10) (by omega) (by omega)
    rw [show (72 : Int) + (j - 72) / 10 * 10 + (j - 72) % 10 = j by omega] at this
    have b1 := hI.n60 (j := 10 + (j - 72) / 10) (by omega)
    have b2 := lastL_b g ((j - 72) % 10) 60 (g (10 + (j - 72) / 10)) b1.1
    unfold lastI at this
    unfold CellW
    omega
  rcases Decidable.em (j < 112) with c10 | c10
  · have := h0.W (j - 102) (by omega)
    rw [show (102 : Int) + (j - 102) = j by omega] at this
    have b1 := hI.n60 (j := 2) (by omega)
    have b2 := lastL_b g (j - 102) 60 (g 2) b1.1
    unfold lastI at this
    unfold CellW
    omega
  rcases Decidable.em (j < 292) with c11 | c11
  · have := h0.J ((j - 112) / 3 + 1) ((j - 112) % 3) (by omega) (by omega)
    rw [show jA ((j - 112) / 3 + 1) + (j - 112) % 3 = j by unfold jA; omega] at this
    have b1 := hI.jr (n := (j - 112) / 3 + 1) (by omega)
    rcases (by omega : (j - 112) % 3 = 0 ∨ (j - 112) % 3 = 1 ∨ (j - 112) % 3 = 2) with e | e | e
    · rw [e] at this
      have := this.trans (congrArg g (Int.add_zero _))
      unfold CellW; omega
    · rw [e] at this; unfold CellW; omega
    · rw [e] at this; unfold CellW; omega
  rcases Decidable.em (j < 340) with c12 | c12
  · have H := h0.H ((j - 292) / 8) (by omega)
    have C := hI.cl (c := (j - 292) / 8) (by omega)
    have e0 : cA ((j - 292) / 8) + (j - 292) % 8 = j := by unfold cA; omega
    have b3 := hI.b (hA ((j - 292) / 8) + 2)
    rcases (by omega : (j - 292) % 8 = 0 ∨ (j - 292) % 8 = 1 ∨ (j - 292) % 8 = 2 ∨ (j - 292) % 8 = 3 ∨ (j - 292) % 8 = 4 ∨ (j - 292) % 8 = 5 ∨ (j - 292) % 8 = 6 ∨ (j - 292) % 8 = 7) with e | e | e | e | e | e | e | e <;>
    · rw [e] at e0
      have k := congrArg f e0
      unfold CellW
      omega
  · have S := h0.S ((j - 340) / 120) ((j - 340) / 12 % 10) (by omega) (by omega)
    have e0 : sA ((j - 340) / 120) ((j - 340) / 12 % 10) + (j - 340) % 12 = j := by unfold sA; omega
    have E := hI.en (a := (j - 340) / 120) (k := (j - 340) / 12 % 10) (by omega) (by omega)
    have O := hI.ol (a := (j - 340) / 120) (k := (j - 340) / 12 % 10) (by omega) (by omega)
    have L := hI.le (a := (j - 340) / 120) (k := (j - 340) / 12 % 10) (by omega) (by omega)
    have q1 := hI.b (eA ((j - 340) / 120) ((j - 340) / 12 % 10))
    have q2 := hI.b (eA ((j - 340) / 120) ((j - 340) / 12 % 10) + 3)
    have q3 := hI.b (eA ((j - 340) / 120) ((j - 340) / 12 % 10) + 4)
    have q4 := hI.b (eA ((j - 340) / 120) ((j - 340) / 12 % 10) + 5)
    have q5 := hI.b (oA ((j - 340) / 120) ((j - 340) / 12 % 10))
    have q6 := hI.b (lA ((j - 340) / 120) ((j - 340) / 12 % 10))
    have q7 := hI.b (lA ((j - 340) / 120) ((j - 340) / 12 % 10) + 2)
    have q8 := hI.b (dA ((j - 340) / 120) ((j - 340) / 12 % 10))
    unfold EA at S
    generalize sA ((j - 340) / 120) ((j - 340) / 12 % 10) = s at *
    generalize eA ((j - 340) / 120) ((j - 340) / 12 % 10) = ee at *
    generalize oA ((j - 340) / 120) ((j - 340) / 12 % 10) = oo at *
    generalize lA ((j - 340) / 120) ((j - 340) / 12 % 10) = ll at *
    generalize dA ((j - 340) / 120) ((j - 340) / 12 % 10) = dd at *
    rcases (by omega : (j - 340) % 12 = 0 ∨ (j - 340) % 12 = 1 ∨ (j - 340) % 12 = 2 ∨ (j - 340) % 12 = 3 ∨ (j - 340) % 12 = 4 ∨ (j - 340) % 12 = 5 ∨ (j - 340) % 12 = 6 ∨ (j - 340) % 12 = 7 ∨ (j - 340) % 12 = 8 ∨ (j - 340) % 12 = 9 ∨ (j - 340) % 12 = 10 ∨ (j - 340) % 12 = 11) with e | e | e | e | e | e | e | e | e | e | e | e <;>
    · rw [e] at e0
      have k := congrArg f e0
      unfold CellW
      omega
end SM
