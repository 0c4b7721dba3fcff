/-! acts on both rows: what comes and gives way, fill, cold, go, set, tick -/
section SN
variable {f g : Int → Int} {B : Int}
theorem bc_fin2 : ∀ k : Fin 10, ∀ n : Fin 512, n.val < 2 ^ k.val → bc10 ((n.val : Int) + pw (k.val : Int)) = bc10 (n.val : Int) + 1 := by decide +kernel
theorem bc_pw {n k : Int} (hk : 0 ≤ k ∧ k < 10) (hn : 0 ≤ n ∧ n < pw k) : bc10 (n + pw k) = bc10 n + 1 := by
  have hb := pw_b hk
  have h := bc_fin2 ⟨k.toNat, by omega⟩ ⟨n.toNat, by omega⟩ (by
    show n.toNat < 2 ^ k.toNat
    have e : ((2 ^ k.toNat : Nat) : Int) = pw k := by unfold pw; rw [Int.natCast_pow]; rfl
    omega)
  have e1 : ((k.toNat : Nat) : Int) = k := by omega
  have e2 : ((n.toNat : Nat) : Int) = n := by omega
  simp only [e1, e2] at h
  exact h
theorem ek_eq {a : Int} (h : Sm0 f g) (ha : 0 ≤ a ∧ a < 6) : ∀ (m : Nat) (k n : Int), k + m = 10 → 0 ≤ k → 0 ≤ n ∧ n < pw k → bc10 (wEkL f a m k n) = entL' g a m k (bc10 n) := by
  intro m
  induction m with
  | zero => intro k n h1 h2 h3; rfl
  | succ m ih =>
    intro k n h1 h2 h3
    have S := h.S a k ha ⟨h2, by omega⟩
    have A0 := h.A
    unfold SmA at A0
    unfold EA at S
    have hp := pw_s h2
    unfold wEkL entL'
    rcases Decidable.em (g 0 < g (eA a k)) with c | c
    · rw [if_pos (show f 0 < f (sA a k + 5) by omega), if_pos c, ih (k + 1) (n + pw k) (by omega) (by omega) (by omega), bc_pw ⟨h2, by omega⟩ h3]
    · rw [if_neg (show ¬ f 0 < f (sA a k + 5) by omega), if_neg c, ih (k + 1) n (by omega) (by omega) (by omega), Int.add_zero]
theorem bcE_eq {a : Int} (h : Sm0 f g) (ha : 0 ≤ a ∧ a < 6) : bc10 (wEk f a) = entN g a := ek_eq h ha 10 0 0 (by omega) (by omega) ⟨by omega, by decide⟩
theorem lk_eq {a t y : Int} (h : Sm0 f g) (ha : 0 ≤ a ∧ a < 6) (hy : 1 ≤ y ∧ y ≤ 4) : ∀ (m : Nat) (k z z' u : Int), k + m = 10 → 0 ≤ k → (z = -2 ∧ z' = -1 ∨ 0 ≤ z ∧ z < 10 ∧ z' = z ∧ u = g (eA a z + (y + 1))) → (wLkL f a y t m k z u = -2 ∧ leastL g a (y + 1) m k z' = -1 ∨ wLkL f a y t m k z u = leastL g a (y + 1) m k z' ∧ 0 ≤ wLkL f a y t m k z u) := by
  intro m
  induction m with
  | zero => intro k z z' u h1 h2 h3; unfold wLkL leastL; omega
  | succ m ih =>
    intro k z z' u h1 h2 h3
    have S := h.S a k ha ⟨h2, by omega⟩
    have A0 := h.A
    unfold SmA at A0
    unfold EA at S
    have e : f (sA a k + y) = g (eA a k + (y + 1)) := by
      rcases (by omega : y = 1 ∨ y = 2 ∨ y = 3 ∨ y = 4) with rfl | rfl | rfl | rfl
      · exact S.2.1
      · exact S.2.2.1
      · exact S.2.2.2.1
      · exact S.2.2.2.2.1
    unfold wLkL leastL
    rcases Decidable.em (g 0 < g (eA a k)) with c | c
    · rw [if_pos (show f 0 < f (sA a k + 5) by omega), if_pos c]
      rcases h3 with ⟨e1, e2⟩ | ⟨e1, e2, e3, e4⟩
      · rw [if_pos e1, if_pos e2]
        exact ih _ _ _ _ (by omega) (by omega) (Or.inr ⟨h2, by omega, rfl, e⟩)
      · rw [if_neg (show ¬ z = -2 by omega), if_neg (show ¬ z' = -1 by omega), e3, e, e4]
        rcases Decidable.em (g (eA a k + (y + 1)) < g (eA a z + (y + 1))) with c2 | c2
        · rw [if_neg (show ¬ g (eA a z + (y + 1)) ≤ g (eA a k + (y + 1)) by omega), if_pos c2]
          exact ih _ _ _ _ (by omega) (by omega) (Or.inr ⟨h2, by omega, rfl, rfl⟩)
        · rw [if_pos (show g (eA a z + (y + 1)) ≤ g (eA a k + (y + 1)) by omega), if_neg c2]
          exact ih _ _ _ _ (by omega) (by omega) (Or.inr ⟨e1, e2, rfl, rfl⟩)
    · rw [if_neg (show ¬ f 0 < f (sA a k + 5) by omega), if_neg c]
      exact ih _ _ _ _ (by omega) (by omega) h3
theorem leastK_eq {a t : Int} (h : Sm0 f g) (ha : 0 ≤ a ∧ a < 6) (ht : 0 ≤ t ∧ t < 4) : wLk f a t = -2 ∧ leastO g a t = -1 ∨ wLk f a t = leastO g a t ∧ 0 ≤ wLk f a t := by
  have k := lk_eq (t := t) h ha (xv3_b ht) 10 0 (-2) (-1) 0 (by omega) (by omega) (Or.inl ⟨rfl, rfl⟩)
  have e : xv 3 t + 1 = polB t := by
    rw [xv3 ht]
    unfold polB
    rcases (by omega : t = 0 ∨ t = 1 ∨ t = 2 ∨ t = 3) with rfl | rfl | rfl | rfl <;> decide
  rw [e] at k
  exact k
theorem evL_at {a j : Int} (ha : 0 ≤ a ∧ a < 6) (h : j < 222 ∨ 582 ≤ j) (h2 : j ≠ 23) : ∀ (m : Nat) (g : Int → Int), 1 ≤ g 3 → entN g a ≤ m → 0 ≤ g 0 → evL a m g j = g j := by
  intro m
  induction m with
  | zero => intro g _ _ _; rfl
  | succ m ih =>
    intro g h3 hm h0
    unfold evL
    rcases Decidable.em (entN g a < g 3) with c | c
    · rw [if_pos c]
    · rw [if_neg c]
      have hl := leastO_ok (g := g) (a := a) (t := g 8) (by omega)
      have hb := eA_b ha hl.1
      have hd := entN_del (v := g 23 + 1) ha hl.1 h0 hl.2
      rw [ih _ (by rw [ud_ne (by omega), ud_ne (by omega)]; exact h3) (by omega) (by rw [ud_ne (by omega), ud_ne (by omega)]; exact h0), ud_ne h2, ud_ne (by omega)]
theorem sm_ev {a : Int} (ha : 0 ≤ a ∧ a < 6) : ∀ (m : Nat) (f g : Int → Int) (B : Int), Sm0 f g → IM B g → entN g a ≤ m → Sm0 (evW a (g 8) (m + 1) f (entN g a)) (evL a m g) ∧ IM (B + m) (evL a m g) := by
  intro m
  induction m with
  | zero =>
    intro f g B h hI hm
    have st := hI.set
    have t0 : f 3 = g 3 := h.T 0 (by omega)
    have hb := entN_b g a
    unfold evW evL
    rw [if_pos (show entN g a < f 3 by omega)]
    exact ⟨h, hI.up (by omega)⟩
  | succ m ih =>
    intro f g B h hI hm
    have st := hI.set
    have t0 : f 3 = g 3 := h.T 0 (by omega)
    have hb := entN_b g a
    have n0 := hI.n0 (j := 0) (by omega)
    rw [evW, evL]
    rcases Decidable.em (entN g a < g 3) with c | c
    · rw [if_pos (show entN g a < f 3 by omega), if_pos c]
      exact ⟨h, hI.up (by omega)⟩
    · rw [if_neg (show ¬ entN g a < f 3 by omega), if_neg c]
      have hl := leastO_ok (g := g) (a := a) (t := g 8) (by omega)
      have hk := leastK_eq h ha (t := g 8) (by omega)
      have hk2 : wLk f a (g 8) = leastO g a (g 8) := by omega
      rw [hk2, if_neg (by omega)]
      generalize leastO g a (g 8) = z at hl ⊢
      have hbz := eA_b ha hl.1
      have hd := entN_del (v := g 23 + 1) ha hl.1 n0 hl.2
      have n23 := hI.n0 (j := 23) (by omega)
      have b23 := hI.b 23
      have b0 := hI.b 0
      have q := ih _ _ (B + 1) (sm_gives ha hl.1 h hI) (((hI.up (show B ≤ B + 1 by omega)).wr (cm_e0 ha hl.1 (by omega))).wr (cm_ct (by omega) (by omega))) (by omega)
      rw [show ud (ud g (eA a z) 0) 23 (g 23 + 1) 8 = g 8 by rw [ud_ne (by omega), ud_ne (by omega)]] at q
      rw [show entN g a + -1 = entN (ud (ud g (eA a z) 0) 23 (g 23 + 1)) a by omega]
      exact ⟨q.1, q.2.up (by omega)⟩
theorem evW_at2 {a t j : Int} (ha : 0 ≤ a ∧ a < 6) (h : j < 340) (h2 : j ≠ 17) (m : Nat) (g : Int → Int) (l : Int) : evW a t m g l j = g j := evW_at ha h h2 m g l
theorem sm_ins {a k v n t : Int} (h : Sm0 f g) (hI : IM B g) (hB : 1000 ≤ B) (ha : 0 ≤ a ∧ a < 6) (hk : 0 ≤ k ∧ k < 10) (ht : t = g 8) (hv : 0 ≤ v ∧ v ≤ 999) (hn : 0 ≤ n ∧ n ≤ 60) :
    Sm0 (wIns f a k v n t) (spFills g a k v n) ∧ IM (B + 200) (spFills g a k v n) ∧ wIns f a k v n t 8 = f 8 ∧ wIns f a k v n t 14 = f 14 + 1 ∧ spFills g a k v n 8 = g 8 ∧ spFills g a k v n 20 = g 20 ∧ (∀ j, j < 36 → j ≠ 23 → spFills g a k v n j = g j) := by
  subst ht
  have p1 := sA_b ha hk
  have p2 := eA_b ha hk
  have p3 := oA_b ha hk
  have p4 := lA_b ha hk
  have n0 := hI.n0 (j := 0) (by omega)
  have b0 := hI.b 0
  have st := hI.set
  have h1 := sm_ins0 ha hk h hI
  have hI1 : IM B (ud (ud (ud g (lA a k) 0) (oA a k) 0) (eA a k) 0) := ((hI.wr (cm_l0 ha hk (by omega))).wr (cm_o0 ha hk (by omega))).wr (cm_e0 ha hk (by omega))
  have g8 : ud (ud (ud g (lA a k) 0) (oA a k) 0) (eA a k) 0 8 = g 8 := by rw [ud_ne (by omega), ud_ne (by omega), ud_ne (by omega)]
  have gj : ∀ j, j < 222 → ud (ud (ud g (lA a k) 0) (oA a k) 0) (eA a k) 0 j = g j := fun j hj => by rw [ud_ne (by omega), ud_ne (by omega), ud_ne (by omega)]
  have fj : ∀ j, j < 340 → wIns0 f a k j = f j := fun j hj => ins0_at ha hk hj
  have h1' : Sm0 (wIns0 f a k) (ud (ud (ud g (lA a k) 0) (oA a k) 0) (eA a k) 0) := h1
  have hb := entN_b (ud (ud (ud g (lA a k) 0) (oA a k) 0) (eA a k) 0) a
  have hev := sm_ev ha 10 _ _ B h1' hI1 (by omega)
  rw [g8] at hev
  have hat : ∀ j, j < 222 → j ≠ 23 → evL a 10 (ud (ud (ud g (lA a k) 0) (oA a k) 0) (eA a k) 0) j = g j := fun j q1 q2 => by
    rw [evL_at ha (Or.inl q1) q2 10 _ (by rw [gj 3 (by omega)]; omega) (by omega) (by rw [gj 0 (by omega)]; exact n0), gj j q1]
  have e : bc10 (wEk (wIns0 f a k) a) = entN (ud (ud (ud g (lA a k) 0) (oA a k) 0) (eA a k) 0) a := bcE_eq h1' ha
  have hfin := sm_fin (v := v) (y := n) ha hk hev.1 hev.2
  unfold wIns spFills
  rw [e]
  have w0 := hat 0 (by omega) (by omega)
  have w4 := hat 4 (by omega) (by omega)
  have fat : ∀ j, j < 340 → j ≠ 17 → evW a (g 8) 11 (wIns0 f a k) (entN (ud (ud (ud g (lA a k) 0) (oA a k) 0) (eA a k) 0) a) j = f j := fun j q1 q2 => by rw [evW_at ha q1 q2, fj j q1]
  refine ⟨hfin, ?_, ?_, ?_, ?_, ?_, ?_⟩
  · have hE := hev.2
    generalize evL a 10 (ud (ud (ud g (lA a k) 0) (oA a k) 0) (eA a k) 0) = G at *
    unfold finF
    rw [w0, w4]
    exact ((((((hE.up (show B + ((10 : Nat) : Int) ≤ B + 200 by omega)).wr (cm_e0 ha hk (by omega))).wr (cm_en ha hk (by omega) (by omega) (by omega) (by omega))).wr (cm_en ha hk (by omega) (by omega) (by omega) (by omega))).wr (cm_en ha hk (by omega) (by omega) (by omega) (by omega))).wr (cm_en ha hk (by omega) (by omega) (by omega) (by omega))).wr (cm_en ha hk (by omega) (by omega) (by omega) (by omega))
  · unfold finW
    rw [ud_ne (by omega), ud_ne (by omega), ud_ne (by omega), ud_ne (by omega), ud_ne (by omega), ud_ne (by omega), ud_ne (by omega), fat 8 (by omega) (by omega)]
  · unfold finW
    rw [ud_eq, fat 14 (by omega) (by omega)]
  · unfold finF
    rw [ud_ne (by omega), ud_ne (by omega), ud_ne (by omega), ud_ne (by omega), ud_ne (by omega), ud_ne (by omega), hat 8 (by omega) (by omega)]
  · unfold finF
    rw [ud_ne (by omega), ud_ne (by omega), ud_ne (by omega), ud_ne (by omega), ud_ne (by omega), ud_ne (by omega), hat 20 (by omega) (by omega)]
  · intro j q1 q2
    unfold finF
    rw [ud_ne (by omega), ud_ne (by omega), ud_ne (by omega), ud_ne (by omega), ud_ne (by omega), ud_ne (by omega), hat j (by omega) q2]
theorem wVo_iff {s t : Int} : wVo f s t = 0 ↔ ¬ (f 9 = 1 ∧ (¬ f 0 < f (s + 10) ∨ f (s + 9) ≠ t)) := by
  unfold wVo
  (repeat' split) <;> omega
theorem sm_fill {c : Int} (h : Sm f g) (hI : IM B g) (hB : 1000 ≤ B) (hc : 0 ≤ c ∧ c < 6) : (wFill f c).1 = (spFill g c).1 ∧ Sm (wFill f c).2 (spFill g c).2 ∧ IM (B + 300) (spFill g c).2 := by
  obtain ⟨h0, h8, h14⟩ := h
  have hh := h0.H c hc
  have hcl := hI.cl hc
  have hb1 := hA_b hc
  have hb2 := cA_b hc
  have hU : IM (B + 300) g := hI.up (by omega)
  unfold wFill spFill
  dsimp only
  rcases Decidable.em (g (hA c + 1) = -1 ∨ g (hA c + 3) = 0) with c0 | c0
  · rw [if_pos (show f (cA c + 3) = 0 by omega), if_pos c0]
    exact ⟨rfl, ⟨h0, h8, h14⟩, hU⟩
  rw [if_neg (show ¬ f (cA c + 3) = 0 by omega), if_neg c0]
  have hk : 0 ≤ g (hA c + 1) ∧ g (hA c + 1) < 10 := ⟨by omega, hcl.2.1.2⟩
  have e0 : f (cA c + 0) = g (hA c + 0) := hh.1
  have e1 : f (cA c + 1) = g (hA c + 1) := by omega
  have e2 : f (cA c + 2) = g (hA c + 2) := hh.2.1
  have e4 : f (cA c + 4) = g (hA c + 4) := hh.2.2.1
  have e5 : f (cA c + 5) = g (hA c + 5) := hh.2.2.2.1
  have e6 : f (cA c + 6) = g (hA c + 6) := hh.2.2.2.2.1
  rw [e0, e1, e2, e4, e5, e6, h8]
  have ha := hcl.1
  have S := h0.S (g (hA c + 0)) (g (hA c + 1)) ha hk
  have A0 := h0.A
  have p1 := sA_b ha hk
  have p2 := eA_b ha hk
  have p4 := lA_b ha hk
  have t9 : f 9 = g 9 := h0.T 6 (by omega)
  unfold SmA at A0
  unfold EA at S
  have st := hI.set
  have b0 := hI.b 0
  have hv := sm_void hc h0 hI
  have hIv : IM B (ud g (hA c + 1) (-1)) := hI.wr (cm_hi hc (by omega) (by omega) (by omega) (by omega) (by omega) (by omega) (by omega) (by omega))
  have hins := sm_ins (v := g (hA c + 4)) (n := g (hA c + 5)) (t := g 8) hv hIv hB ha hk (by rw [ud_ne (by omega)]) (by omega) (by omega)
  have rf : Sm (ud (ud (ud f (cA c + 7) 0) (cA c + 3) 0) 15 (f 15 + 1)) (ud (ud g (hA c + 1) (-1)) 21 (g 21 + 1)) := ⟨sm_refuse hc h0 hI, (by simp only [ud]; (repeat rw [if_neg (by omega)]); assumption), (by simp only [ud]; (repeat rw [if_neg (by omega)]); assumption)⟩
  have ri : IM (B + 300) (ud (ud g (hA c + 1) (-1)) 21 (g 21 + 1)) := ((hIv.up (show B ≤ B + 100 by omega)).wr (im_u1 hI (by omega))).up (by omega)
  have vo : wVo (ud (ud f (cA c + 7) 0) (cA c + 3) 0) (sA (g (hA c + 0)) (g (hA c + 1))) (g (hA c + 2)) = 0 ↔ ¬ (g 9 = 1 ∧ (¬ g 0 < g (lA (g (hA c + 0)) (g (hA c + 1))) ∨ g (lA (g (hA c + 0)) (g (hA c + 1)) + 2) ≠ g (hA c + 2))) := by
    rw [wVo_iff, ud_ne (f := ud f (cA c + 7) 0) (k := 9) (by omega), ud_ne (k := 9) (by omega), ud_ne (f := ud f (cA c + 7) 0) (k := 0) (by omega), ud_ne (k := 0) (by omega), ud_ne (f := ud f (cA c + 7) 0) (k := sA (g (hA c + 0)) (g (hA c + 1)) + 10) (by omega), ud_ne (k := sA (g (hA c + 0)) (g (hA c + 1)) + 10) (by omega), ud_ne (f := ud f (cA c + 7) 0) (k := sA (g (hA c + 0)) (g (hA c + 1)) + 9) (by omega), ud_ne (k := sA (g (hA c + 0)) (g (hA c + 1)) + 9) (by omega)]
    omega
  have fl : Sm (wIns (ud (ud f (cA c + 7) 0) (cA c + 3) 0) (g (hA c + 0)) (g (hA c + 1)) (g (hA c + 4)) (g (hA c + 5)) (g 8)) (ud (spFills (ud g (hA c + 1) (-1)) (g (hA c + 0)) (g (hA c + 1)) (g (hA c + 4)) (g (hA c + 5))) 20 (spFills (ud g (hA c + 1) (-1)) (g (hA c + 0)) (g (hA c + 1)) (g (hA c + 4)) (g (hA c + 5)) 20 + 1)) := by
    refine ⟨sm_led4 hins.1 hins.2.1, ?_, ?_⟩
    · rw [hins.2.2.1, ud_ne (j := 20) (by omega), hins.2.2.2.2.1, ud_ne (by omega), ud_ne (by omega), ud_ne (by omega)]; exact h8
    · rw [hins.2.2.2.1, ud_eq, hins.2.2.2.2.2.1, ud_ne (by omega), ud_ne (by omega), ud_ne (by omega), h14]
  have fi : IM (B + 300) (ud (spFills (ud g (hA c + 1) (-1)) (g (hA c + 0)) (g (hA c + 1)) (g (hA c + 4)) (g (hA c + 5))) 20 (spFills (ud g (hA c + 1) (-1)) (g (hA c + 0)) (g (hA c + 1)) (g (hA c + 4)) (g (hA c + 5)) 20 + 1)) :=
    ((hins.2.1.up (show B + 200 ≤ B + 200 by omega)).up (show B + 200 ≤ B + 200 + 100 by omega)).wr (im_u1 hins.2.1 (by omega)) |>.up (by omega)
  rcases Decidable.em (g (hA c + 6) = 1 ∧ g 0 < g (dA (g (hA c + 0)) (g (hA c + 1)))) with c1 | c1
  · rw [if_pos c1.1, if_pos (show f 0 < f (sA (g (hA c + 0)) (g (hA c + 1)) + 11) by omega), if_pos (Or.inr c1)]
    exact ⟨rfl, rf, ri⟩
  · have k2 : ∀ x y z : Int × (Int → Int), (if g (hA c + 6) = 1 then if f 0 < f (sA (g (hA c + 0)) (g (hA c + 1)) + 11) then x else y else y) = y := fun x y z => by
      split
      · rw [if_neg (by omega)]
      · rfl
    rw [k2 _ _ (0, f)]
    rcases Decidable.em (g 9 = 1 ∧ (¬ g 0 < g (lA (g (hA c + 0)) (g (hA c + 1))) ∨ g (lA (g (hA c + 0)) (g (hA c + 1)) + 2) ≠ g (hA c + 2))) with c2 | c2
    · rw [if_neg (fun q => (vo.mp q) c2), if_pos (Or.inl c2)]
      exact ⟨rfl, rf, ri⟩
    · rw [if_pos (vo.mpr c2), if_neg (fun q => q.elim c2 c1)]
      exact ⟨rfl, fl, fi⟩
theorem sm_cdl {a v : Int} (ha : 0 ≤ a ∧ a < 6) (hv : v = 0 ∨ v = 1) : ∀ (m : Nat) (k : Int) (f g : Int → Int), k + m = 10 → 0 ≤ k → Sm0 f g → IM B g → f 8 = g 8 → f 14 = g 20 → Sm (cdW a v m f k) (coldL a v m k g) ∧ IM B (coldL a v m k g) := by
  intro m
  induction m with
  | zero => intro k f g h1 h2 h hI e8 e14; exact ⟨⟨h, e8, e14⟩, hI⟩
  | succ m ih =>
    intro k f g h1 h2 h hI e8 e14
    have hk : 0 ≤ k ∧ k < 10 := ⟨h2, by omega⟩
    have p1 := sA_b ha hk
    have p2 := eA_b ha hk
    have p3 := oA_b ha hk
    have p4 := lA_b ha hk
    have p5 := dA_b ha hk
    have b0 := hI.b 0
    have n0 := hI.n0 (j := 0) (by omega)
    unfold cdW coldL
    rcases Decidable.em (v = 1) with c | c
    · rw [if_pos c, if_pos c]
      exact ih _ _ _ (by omega) (by omega) (sm_cold1 ha hk h hI) ((((hI.wr (cm_ho ha hk (by omega))).wr (cm_e0 ha hk (by omega))).wr (cm_o0 ha hk (by omega))).wr (cm_l0 ha hk (by omega))) (by simp only [ud]; (repeat rw [if_neg (by omega)]); assumption) (by simp only [ud]; (repeat rw [if_neg (by omega)]); assumption)
    · rw [if_neg c, if_neg c]
      exact ih _ _ _ (by omega) (by omega) (sm_warm1 ha hk h hI) (hI.wr (cm_ho ha hk (by omega))) (by simp only [ud]; (repeat rw [if_neg (by omega)]); assumption) (by simp only [ud]; (repeat rw [if_neg (by omega)]); assumption)
theorem sm_turn {a v : Int} (h : Sm f g) (hI : IM B g) (hB : 1000 ≤ B) (ha : 0 ≤ a ∧ a < 6) (hv : v = 0 ∨ v = 1) : Sm (wTurn f a v) (spCold g a v) ∧ IM B (spCold g a v) := by
  obtain ⟨h0, h8, h14⟩ := h
  have c0 := h0.C a ha
  unfold wTurn spCold
  rcases Decidable.em (g (216 + a) = v) with c | c
  · rw [if_pos (show f (36 + a) = v by omega), if_pos c]
    exact ⟨⟨h0, h8, h14⟩, hI⟩
  · rw [if_neg (show ¬ f (36 + a) = v by omega), if_neg c]
    exact sm_cdl ha hv 10 0 _ _ (by omega) (by omega) (sm_cset ha h0 hI) (hI.wr (by unfold CellM; omega)) (by simp only [ud]; (repeat rw [if_neg (by omega)]); assumption) (by simp only [ud]; (repeat rw [if_neg (by omega)]); assumption)
end SN
