/-! all orders, alike -/
def Ag (n : Int) (o o' : Int → Int) : Prop := ∀ i, 0 ≤ i ∧ i < n → o i = o' i
section OG_
variable {K Fs S : Int → Int → Int} {sz P PS o o' cl f g : Int → Int} {n key B : Int}
theorem ris_ag (h : Ag n o o') : ∀ (m : Nat) (i : Int), i = m - 1 → i ≤ n - 2 → risL o m i = risL o' m i := by
  intro m
  induction m with
  | zero => intro i _ _; rfl
  | succ m ih =>
    intro i h1 h2
    unfold risL
    rw [h i (by omega), h (i + 1) (by omega), ih (i - 1) (by omega) (by omega)]
theorem hig_ag {v r : Int} (h : Ag n o o') (hr : 0 ≤ r) : ∀ (m : Nat) (j : Int), j = r + m → j < n → higL o v m j = higL o' v m j := by
  intro m
  induction m with
  | zero => intro j _ _; rfl
  | succ m ih =>
    intro j h1 h2
    unfold higL
    rw [h j (by omega), ih (j - 1) (by omega) (by omega)]
theorem sw_ag {i j : Int} (h : Ag n o o') (hi : 0 ≤ i ∧ i < n) (hj : 0 ≤ j ∧ j < n) : Ag n (swO o i j) (swO o' i j) := fun k hk => by
  rw [sw_at, sw_at, h i hi, h j hj, h k hk]
theorem rev_ag : ∀ (m : Nat) (o o' : Int → Int) (i j : Int), Ag n o o' → 0 ≤ i → j < n → Ag n (revL m o i j) (revL m o' i j) := by
  intro m
  induction m with
  | zero => intro o o' i j h _ _; exact h
  | succ m ih =>
    intro o o' i j h hi hj
    unfold revL
    split
    · exact ih _ _ _ _ (sw_ag h ⟨hi, by omega⟩ ⟨by omega, hj⟩) (by omega) (by omega)
    · exact h
theorem risO_ag (h : Ag n o o') (hn : 1 ≤ n) : risO o n = risO o' n := ris_ag h (n - 1).toNat (n - 2) (by omega) (by omega)
theorem nx_ag (h : Ag n o o') (hn : 1 ≤ n) (h0 : 0 ≤ risO o n) : Ag n (nxO o n) (nxO o' n) := by
  have r := risO_b (o := o) hn
  have er := risO_ag h hn
  have q := higO_b (o := o) hn h0
  have eh : higO o n = higO o' n := by
    unfold higO
    rw [← er, h (risO o n) (by omega)]
    exact hig_ag h h0 (n - 1 - risO o n).toNat (n - 1) (by omega) (by omega)
  unfold nxO
  rw [← er, ← eh]
  exact rev_ag 8 _ _ _ _ (sw_ag h (by omega) (by omega)) (by omega) (by omega)
theorem exR_ag (h : Ag n o o') : ∀ (mm : Nat) (i : Int) (dd g : Int → Int), i + mm = n → 0 ≤ i → exR P o mm i dd g = exR P o' mm i dd g := by
  intro mm
  induction mm with
  | zero => intro i dd g _ _; rfl
  | succ mm ih =>
    intro i dd g h1 h2
    unfold exR
    rw [h i (by omega), ih (i + 1) _ _ (by omega) (by omega)]
theorem rOb_ag (h : Ag n o o') (hn : 0 ≤ n) : rOb P g key n o = rOb P g key n o' := by
  unfold rOb
  rw [exR_ag h n.toNat 0 z0 g (by omega) (by omega)]
theorem wAl_ld (hA : AK B f g) : wAl f = rLd g := by
  have a := hA.1.1.O 0 (by omega)
  have b := hA.1.1.O 1 (by omega)
  have c := hA.1.1.O 2 (by omega)
  have e : wAl f = 0 + f (33 + 0) + f (33 + (0 + 1)) + f (33 + (0 + 1 + 1)) := rfl
  have z1 : f (33 + (0 + 1)) = f (33 + 1) := rfl
  have z2 : f (33 + (0 + 1 + 1)) = f (33 + 2) := rfl
  have d1 : g (13 + 0) = g 13 := rfl
  have d2 : g (13 + 1) = g 14 := rfl
  have d3 : g (13 + 2) = g 15 := rfl
  unfold rLd
  omega
theorem ob_eq (hR : PRel K Fs S sz P PS) (hO : ORD cl sz o n) (hA : AK B f g) (hB : 1000 ≤ B) (hBB : B + 10000 ≤ 8000000) (hk : 0 ≤ key ∧ key < 10) : cOb K Fs S f key n o = rOb P g key n o := by
  have hn := hO.1
  have ex := ex_eq hR hO n.toNat 0 z0 f g B (by omega) (by omega) (don0 (fun c _ => rfl)) hA hB (by omega)
  unfold cOb rOb
  generalize exC K Fs S o n.toNat 0 z0 f = fo at *
  generalize exR P o n.toNat 0 z0 g = go at *
  have ao := an_og ex
  have sp := ex.1.1.S 0 key (by omega) hk
  have A0 := ex.1.1.A
  unfold SmA at A0
  unfold EA at sp
  rw [wAl_ld ex, wAl_ld hA, sp.1]
  have e1 : (if 0 < wOg fo then (1 : Int) else 0) = anL go 6 0 0 := by split <;> omega
  rw [e1]
  by_cases c : go 0 < go (eA 0 key)
  · rw [if_pos c, if_pos (show fo 0 < fo (sA 0 key + 5) by omega)]
  · rw [if_neg c, if_neg (show ¬ fo 0 < fo (sA 0 key + 5) by omega)]
theorem ordL_eq {ob ob' : (Int → Int) → Int × Int × Int} (hw : WB cl) (hob : ∀ o o', Ag n o o' → ORD cl sz o n → ob o = ob' o') : ∀ (kk : Nat) (o o' : Int → Int) (t s l m un : Int) (fs fs' fv : Int → Int), Ag n o o' → ORD cl sz o n → 0 ≤ s → (0 < s → Ag n fs fs') →
    (ordL ob n kk o t s l m un fs fv).1 = (ordL ob' n kk o' t s l m un fs' fv).1 ∧ (ordL ob n kk o t s l m un fs fv).2.1 = (ordL ob' n kk o' t s l m un fs' fv).2.1 ∧ (ordL ob n kk o t s l m un fs fv).2.2.1 = (ordL ob' n kk o' t s l m un fs' fv).2.2.1 ∧ (ordL ob n kk o t s l m un fs fv).2.2.2.1 = (ordL ob' n kk o' t s l m un fs' fv).2.2.2.1 ∧ (ordL ob n kk o t s l m un fs fv).2.2.2.2.1 = (ordL ob' n kk o' t s l m un fs' fv).2.2.2.2.1 ∧ 0 ≤ (ordL ob n kk o t s l m un fs fv).2.1 ∧ (0 < (ordL ob n kk o t s l m un fs fv).2.1 → Ag n (ordL ob n kk o t s l m un fs fv).2.2.2.2.2 (ordL ob' n kk o' t s l m un fs' fv).2.2.2.2.2) := by
  intro kk
  induction kk with
  | zero => intro o o' t s l m un fs fs' fv h hO hs hf; exact ⟨rfl, rfl, rfl, rfl, rfl, hs, hf⟩
  | succ kk ih =>
    intro o o' t s l m un fs fs' fv h hO hs hf
    have e := hob o o' h hO
    have er := risO_ag h hO.1.1
    have ag : 0 < (if (ob' o').2.1 = 1 then s + 1 else s) → Ag n (if (ob' o').2.1 = 1 ∧ s = 0 then cpI o fs 0 0 n else fs) (if (ob' o').2.1 = 1 ∧ s = 0 then cpI o' fs' 0 0 n else fs') := fun q i hi => by
      by_cases c : (ob' o').2.1 = 1 ∧ s = 0
      · rw [if_pos c, if_pos c]
        unfold cpI
        rw [if_pos (by omega), if_pos (by omega)]
        exact h _ (by omega)
      · rw [if_neg c, if_neg c]
        refine hf ?_ i hi
        split at q <;> omega
    unfold ordL
    rw [← er, e]
    by_cases c : risO o n < 0
    · rw [if_pos c, if_pos c]
      exact ⟨rfl, rfl, rfl, rfl, rfl, by dsimp only; split <;> omega, ag⟩
    · rw [if_neg c, if_neg c]
      exact ih _ _ _ _ _ _ _ _ _ _ (nx_ag h hO.1.1 (by omega)) (hO.nx hw (by omega)) (by split <;> omega) ag
/-- first orders alike -/
theorem boI_ag {c : Int} : ∀ (m : Nat) (n : Int) (o o' : Int → Int), 0 ≤ n → Ag n o o' → Ag (boI c m n o).1 (boI c m n o).2 (boI c m n o').2 := by
  intro m
  induction m with
  | zero => intro n o o' _ h; exact h
  | succ m ih =>
    intro n o o' hn h
    unfold boI
    refine ih (n + 1) _ _ (by omega) (fun i hi => ?_)
    rcases Decidable.em (i = n) with e | e
    · rw [e, ud_eq, ud_eq]
    · rw [ud_ne e, ud_ne e]; exact h i (by omega)
theorem boL_ag : ∀ (m : Nat) (c n : Int) (o o' : Int → Int), 0 ≤ n → Ag n o o' → Ag (boL cl sz m c n o).1 (boL cl sz m c n o).2 (boL cl sz m c n o').2 := by
  intro m
  induction m with
  | zero => intro c n o o' _ h; exact h
  | succ m ih =>
    intro c n o o' hn h
    unfold boL
    split
    · have l := boI_1 (c := c) (sz c).toNat n o
      have l' := boI_1 (c := c) (sz c).toNat n o'
      rw [show (boI c (sz c).toNat n o').1 = (boI c (sz c).toNat n o).1 by omega]
      exact ih _ _ _ _ (by omega) (boI_ag (sz c).toNat n o o' hn h)
    · exact ih _ _ _ _ hn h
theorem boL_cong {sz' : Int → Int} (e : ∀ c, 0 ≤ c ∧ c < 6 → sz c = sz' c) : ∀ (m : Nat) (c n : Int) (o : Int → Int), c + m = 6 → 0 ≤ c → boL cl sz m c n o = boL cl sz' m c n o := by
  intro m
  induction m with
  | zero => intro c n o _ _; rfl
  | succ m ih =>
    intro c n o h1 h2
    unfold boL
    rw [e c (by omega), ih _ _ _ (by omega) (by omega), ih _ _ _ (by omega) (by omega)]
theorem aoL_cong {sz' : Int → Int} (e : ∀ c, 0 ≤ c ∧ c < 6 → sz c = sz' c) : ∀ (m : Nat) (c n : Int), c + m = 6 → 0 ≤ c → aoL cl sz m c n = aoL cl sz' m c n := by
  intro m
  induction m with
  | zero => intro c n _ _; rfl
  | succ m ih =>
    intro c n h1 h2
    unfold aoL
    rw [e c (by omega), ih _ _ (by omega) (by omega)]
theorem ord0 {x : Int} (hp : PLAN x sz) (hs : ∀ c, 0 ≤ c ∧ c < 6 → 0 ≤ sz c ∧ sz c ≤ 5) (ha : aoL (clF x) sz 6 0 0 ≤ 8) (o : Int → Int) : ORD (clF x) sz (boL (clF x) sz 6 0 0 o).2 (aoL (clF x) sz 6 0 0) := by
  have e := boL_1 (cl := clF x) hs 6 0 0 o (by omega) (by omega)
  have k := boL_ok (cl := clF x) hs 6 0 0 o (by omega) (by omega) (by omega) (fun i hi => by omega) (fun d hd => by
    rw [if_neg (by omega)]; rfl)
  rw [e] at k
  have ab := aoL_b (cl := clF x) hs 6 0 0 (by omega) (by omega)
  refine ⟨⟨?_, ha⟩, k.1, fun c hc h1 => by rw [k.2 c hc, if_pos h1]⟩
  rcases Decidable.em (1 ≤ aoL (clF x) sz 6 0 0) with q | q
  · exact q
  · exfalso
    have z : ∀ d, 0 ≤ d ∧ d < 6 → clF x d ≠ 1 := fun d hd h1 => by
      have a := k.2 d hd
      rw [if_pos h1] at a
      have b := cntO_b (o := (boL (clF x) sz 6 0 0 o).2) (c := d) (aoL (clF x) sz 6 0 0).toNat
      have c := hp.2.2 d hd h1
      have s := hs d hd
      omega
    have bx := clF_bs (x := x) ⟨by have := hp.1; omega, hp.1.2⟩
    have w := clF_wb (x := x)
    have zz : ∀ j, 0 ≤ j → j < 10 → clF x j = 0 := fun j h1 h2 => by
      rcases Decidable.em (j < 6) with r | r
      · have := w j; have := z j ⟨h1, r⟩; omega
      · exact w.z (by omega)
    have c0 := cnt0 zz
    have b0 := (bs_cnt w.b).mpr c0
    have := hp.1
    omega
end OG_
