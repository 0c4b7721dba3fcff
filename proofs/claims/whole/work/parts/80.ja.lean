/-! acts: the two faces answer alike, and their rows stay together -/
section JA
variable {f g : Int → Int} {B : Int}
/-- the rows behind an act -/
def AK (B : Int) (f' g' : Int → Int) : Prop := Sm f' g' ∧ IM B g' ∧ PM g' ∧ ZM g'
def vOK (v : Int) : Prop := (dOn v ∨ dNo v) ∧ r32 v
theorem pm_of {g' : Int → Int} (h : PM g) (e : ∀ j, j = 2 ∨ 10 ≤ j ∧ j < 13 → g' j = g j) : PM g' := fun r hr => by rw [e 2 (by omega), e (10 + r) (by omega)]; exact h r hr
theorem AK.up {C : Int} {f' g' : Int → Int} (h : AK B f' g') (hC : B ≤ C) : AK C f' g' := ⟨h.1, h.2.1.up hC, h.2.2⟩
theorem vk {v : Int} (h : 0 ≤ v ∧ v < 2147483648 ∨ v = -4 ∨ v = -6 ∨ v = -1 ∨ v = -2 ∨ v = -3 ∨ v = -5 ∨ v = -11 ∨ v = -13) : vOK v := by
  unfold vOK dOn dNo r32
  omega
theorem bad_ok (h : AK B f g) : ((-1 : Int) = -1) ∧ AK (B + 1000) f g ∧ vOK (-1) := ⟨rfl, h.up (by omega), vk (by omega)⟩
theorem A_get {c k : Int} (h : AK B f g) (hB : 1000 ≤ B ∧ B ≤ 8000000) : (cGet f c k).1 = (rGet g c k).1 ∧ AK (B + 1000) (cGet f c k).2 (rGet g c k).2 ∧ vOK (rGet g c k).1 := by
  obtain ⟨hS, hI, hP, hZ⟩ := h
  unfold cGet rGet
  rcases Decidable.em (0 ≤ c ∧ c < 6) with cc | cc
  · rw [if_pos cc, if_pos (show 0 ≤ c ∧ c ≤ 5 by omega)]
    rcases Decidable.em (0 ≤ k ∧ k < 10) with ck | ck
    · rw [if_pos ck, if_pos (show 0 ≤ k ∧ k ≤ 9 by omega)]
      have q := sm_get hS hI cc ck
      have hG := (hI.cl cc).1
      have b1 := hA_b cc
      have b2 := eA_b hG ck
      have b3 := oA_b hG ck
      have b4 := lA_b hG ck
      have en := hI.en hG ck
      have ol := hI.ol hG ck
      have be := hI.b (eA (g (hA c + 0)) k + 1)
      refine ⟨q.1, ⟨q.2.1, q.2.2.up (by omega), pm_of hP (fun j hj => ?_), ?_⟩, ?_⟩
      · show (spGet g c k).2 j = g j
        unfold spGet; dsimp only
        (repeat' split) <;> (try dsimp only) <;> (repeat (first | rfl | rw [ud_ne (by omega)]))
      · show ZM (spGet g c k).2
        unfold spGet; dsimp only
        (repeat' split) <;> (repeat (first | exact hZ | refine zm_ud ?_ (by omega)))
      · show vOK (spGet g c k).1
        unfold spGet; dsimp only
        (repeat' split) <;> exact vk (by omega)
    · rw [if_neg ck, if_neg (show ¬ (0 ≤ k ∧ k ≤ 9) by omega)]; exact bad_ok ⟨hS, hI, hP, hZ⟩
  · rw [if_neg cc, if_neg (show ¬ (0 ≤ c ∧ c ≤ 5) by omega)]; exact bad_ok ⟨hS, hI, hP, hZ⟩
theorem A_look {c : Int} (h : AK B f g) (hB : 1000 ≤ B ∧ B ≤ 8000000) : (cLook f c).1 = (rLook g c).1 ∧ AK (B + 1000) (cLook f c).2 (rLook g c).2 ∧ vOK (rLook g c).1 := by
  obtain ⟨hS, hI, hP, hZ⟩ := h
  unfold cLook rLook
  rcases Decidable.em (0 ≤ c ∧ c < 6) with cc | cc
  · rw [if_pos cc, if_pos (show 0 ≤ c ∧ c ≤ 5 by omega)]
    have q := sm_look hS hI hB.1 cc
    have hG := (hI.cl cc).1
    have hz := besO_b hG
    have b1 := hA_b cc
    have hcl := hI.cl cc
    refine ⟨q.1, ⟨q.2.1, q.2.2.up (by omega), pm_of hP (fun j hj => ?_), ?_⟩, ?_⟩
    · show (spLook g c).2 j = g j
      unfold spLook frO; dsimp only
      (repeat' split) <;> (try dsimp only) <;> (repeat (first | rfl | rw [ud_ne (by omega)]))
    · show ZM (spLook g c).2
      unfold spLook frO; dsimp only
      (repeat' split) <;> (repeat (first | exact hZ | refine zm_ud ?_ (by omega)))
    · show vOK (spLook g c).1
      unfold spLook; dsimp only
      split
      · exact vk (by omega)
      · rename_i c1
        split
        · have en := hI.en hz (k := g (hA c + 1)) ⟨by omega, hcl.2.1.2⟩
          exact vk (by omega)
        · have hfr : 0 ≤ frO g (g (hA c + 0)) (g (hA c + 1)) ∧ frO g (g (hA c + 0)) (g (hA c + 1)) < 3 := by unfold frO; split <;> omega
          have hI1 : IM B (ud g (hA c + 3) 1) := hI.wr (cm_hi cc (by omega) (by omega) (by omega) (by omega) (by omega) (by omega) (by omega) (by omega))
          generalize frO g (g (hA c + 0)) (g (hA c + 1)) = r at hfr ⊢
          rw [svO_ud hI1 hfr (by omega), svO_ud hI hfr (by omega)]
          have hv := svO_b2 hI (k := g (hA c + 1)) hfr
          rw [valO_ud hv (by omega), valO_ud hv (by omega), valO_ud hv (by omega)]
          have := valO_b hI hv
          exact vk (by omega)
  · rw [if_neg cc, if_neg (show ¬ (0 ≤ c ∧ c ≤ 5) by omega)]; exact bad_ok ⟨hS, hI, hP, hZ⟩
theorem zm_ev {a : Int} (ha : 0 ≤ a ∧ a < 6) : ∀ (m : Nat) (g : Int → Int), ZM g → ZM (evL a m g) := by
  intro m
  induction m with
  | zero => intro g h; exact h
  | succ m ih =>
    intro g h
    unfold evL
    split
    · exact h
    · have hl : -1 ≤ leastO g a (g 8) ∧ leastO g a (g 8) < 10 := by
        rcases leastL_in (g := g) (a := a) (y := polB (g 8)) 10 0 (-1) with e | e <;> unfold leastO <;> omega
      refine ih _ (zm_ud (zm_ud h ?_) (by omega))
      unfold eA
      omega
theorem zm_fills {a k v w : Int} (hZ : ZM g) (ha : 0 ≤ a ∧ a < 6) (hk : 0 ≤ k ∧ k < 10) : ZM (spFills g a k v w) := by
  have b2 := eA_b ha hk
  have b3 := oA_b ha hk
  have b4 := lA_b ha hk
  unfold spFills finF
  exact zm_ud (zm_ud (zm_ud (zm_ud (zm_ud (zm_ud (zm_ev ha 10 _ (zm_ud (zm_ud (zm_ud hZ (by omega)) (by omega)) (by omega))) (by omega)) (by omega)) (by omega)) (by omega)) (by omega)) (by omega)
theorem A_fill {c : Int} (h : AK B f g) (hB : 1000 ≤ B ∧ B ≤ 8000000) : (cFill f c).1 = (rFill g c).1 ∧ AK (B + 1000) (cFill f c).2 (rFill g c).2 ∧ vOK (rFill g c).1 := by
  obtain ⟨hS, hI, hP, hZ⟩ := h
  unfold cFill rFill
  rcases Decidable.em (0 ≤ c ∧ c < 6) with cc | cc
  · rw [if_pos cc, if_pos (show 0 ≤ c ∧ c ≤ 5 by omega)]
    have q := sm_fill hS hI hB.1 cc
    have hG := (hI.cl cc).1
    have b1 := hA_b cc
    have hcl := hI.cl cc
    have hIv : IM B (ud g (hA c + 1) (-1)) := hI.wr (cm_hi cc (by omega) (by omega) (by omega) (by omega) (by omega) (by omega) (by omega) (by omega))
    have hSv := sm_void cc hS.1 hI
    refine ⟨q.1, ⟨q.2.1, q.2.2.up (by omega), pm_of hP (fun j hj => ?_), ?_⟩, ?_⟩
    · show (spFill g c).2 j = g j
      unfold spFill; dsimp only
      split
      · rfl
      · rename_i c1
        split
        · show ud _ _ _ j = g j
          rw [ud_ne (by omega), ud_ne (by omega)]
        · show ud _ _ _ j = g j
          rw [ud_ne (by omega), (sm_ins (v := g (hA c + 4)) (n := g (hA c + 5)) (t := ud g (hA c + 1) (-1) 8) hSv hIv hB.1 hG ⟨by omega, hcl.2.1.2⟩ rfl (by omega) (by omega)).2.2.2.2.2.2 j (by omega) (by omega), ud_ne (by omega)]
    · show ZM (spFill g c).2
      unfold spFill; dsimp only
      split
      · exact hZ
      · rename_i c1
        split
        · exact zm_ud (zm_ud hZ (by omega)) (by omega)
        · exact zm_ud (zm_fills (zm_ud hZ (by omega)) hG ⟨by omega, hcl.2.1.2⟩) (by omega)
    · show vOK (spFill g c).1
      unfold spFill; dsimp only
      (repeat' split) <;> exact vk (by omega)
  · rw [if_neg cc, if_neg (show ¬ (0 ≤ c ∧ c ≤ 5) by omega)]; exact bad_ok ⟨hS, hI, hP, hZ⟩
theorem zm_del {a k : Int} (hZ : ZM g) (ha : 0 ≤ a ∧ a < 6) (hk : 0 ≤ k ∧ k < 10) : ZM (spDel g a k) := by
  have b2 := eA_b ha hk
  have b3 := oA_b ha hk
  have b4 := lA_b ha hk
  have b5 := dA_b ha hk
  have h1 : ZM (del1 g a k) := by
    unfold del1
    split <;> (repeat (first | exact hZ | refine zm_ud ?_ (by omega)))
  unfold spDel del2
  dsimp only
  generalize del1 g a k = G at h1 ⊢
  split
  · exact zm_ud (zm_ud (zm_ud (zm_ud h1 (by omega)) (by omega)) (by omega)) (by omega)
  · exact zm_ud (zm_ud (zm_ud h1 (by omega)) (by omega)) (by omega)
theorem A_write {c k v : Int} (h : AK B f g) (hB : 1000 ≤ B ∧ B ≤ 8000000) : (cWrite f c k v).1 = (rWrite g c k v).1 ∧ AK (B + 1000) (cWrite f c k v).2 (rWrite g c k v).2 ∧ vOK (rWrite g c k v).1 := by
  obtain ⟨hS, hI, hP, hZ⟩ := h
  unfold cWrite rWrite
  rcases Decidable.em (0 ≤ c ∧ c < 6) with cc | cc
  · rw [if_pos cc, if_pos (show 0 ≤ c ∧ c ≤ 5 by omega)]
    rcases Decidable.em (0 ≤ k ∧ k < 10) with ck | ck
    · rw [if_pos ck, if_pos (show 0 ≤ k ∧ k ≤ 9 by omega)]
      rcases Decidable.em (0 ≤ v ∧ v < 1000) with cv | cv
      · rw [if_pos cv, if_pos (show 0 ≤ v ∧ v ≤ 999 by omega)]
        have q := sm_write hS hI hB.1 hP cc ck (show 0 ≤ v ∧ v ≤ 999 by omega)
        have hG := (hI.cl cc).1
        have n2 := hI.n60 (j := 2) (by omega)
        have n2' := q.2.2.1.n60 (j := 2) (by omega)
        refine ⟨q.1, ⟨q.2.1, q.2.2.1.up (by omega), q.2.2.2, ?_⟩, ?_⟩
        · show ZM (spWrite g c k v).2
          unfold spWrite wr2 wr1
          split
          · exact hZ
          · refine zm_del ?_ hG ck
            split
            · exact zm_ud (zm_ud (zm_ud (zm_ud hZ (by omega)) (by omega)) (by omega)) (by omega)
            · exact zm_ud (zm_ud (zm_ud (zm_ud (zm_ud hZ (by omega)) (by omega)) (by omega)) (by omega)) (by omega)
        · show vOK (spWrite g c k v).1
          unfold spWrite at n2' ⊢
          split
          · exact vk (by omega)
          · rename_i c1
            rw [if_neg c1] at n2'
            exact vk (Or.inl ⟨n2'.1, Int.lt_of_le_of_lt n2'.2 (by decide)⟩)
      · rw [if_neg cv, if_neg (show ¬ (0 ≤ v ∧ v ≤ 999) by omega)]; exact bad_ok ⟨hS, hI, hP, hZ⟩
    · rw [if_neg ck, if_neg (show ¬ (0 ≤ k ∧ k ≤ 9) by omega)]; exact bad_ok ⟨hS, hI, hP, hZ⟩
  · rw [if_neg cc, if_neg (show ¬ (0 ≤ c ∧ c ≤ 5) by omega)]; exact bad_ok ⟨hS, hI, hP, hZ⟩
theorem A_apply {r : Int} (h : AK B f g) (hB : 1000 ≤ B ∧ B ≤ 8000000) : (cApply f r).1 = (rApply g r).1 ∧ AK (B + 1000) (cApply f r).2 (rApply g r).2 ∧ vOK (rApply g r).1 := by
  obtain ⟨hS, hI, hP, hZ⟩ := h
  unfold cApply rApply
  rcases Decidable.em (0 ≤ r ∧ r < 3) with cr | cr
  · rw [if_pos cr, if_pos (show 0 ≤ r ∧ r ≤ 2 by omega)]
    have q := sm_apply hS hI hB.1 hP cr
    have n2 := hI.n60 (j := 2) (by omega)
    have nr := hI.n60 (j := 10 + r) (by omega)
    have pl := hP r cr
    refine ⟨q.1, ⟨q.2.1, q.2.2.1.up (by omega), q.2.2.2, ?_⟩, ?_⟩
    · show ZM (spApply g r).2
      unfold spApply
      split
      · exact hZ
      · rename_i c1
        have hk := apK_b hI cr (by omega)
        have z3 : ZM (ap3 g r) := by
          unfold ap3 ap1
          exact zm_del (zm_del (zm_ud hZ (by omega)) (by omega) hk) (by omega) hk
        split
        · exact zm_ud z3 (by omega)
        · exact z3
    · show vOK (spApply g r).1
      unfold spApply
      split
      · exact vk (by omega)
      · split <;> exact vk (by show 0 ≤ g (10 + r) + 1 ∧ g (10 + r) + 1 < 2147483648 ∨ _; omega)
  · rw [if_neg cr, if_neg (show ¬ (0 ≤ r ∧ r ≤ 2) by omega)]; exact bad_ok ⟨hS, hI, hP, hZ⟩
theorem A_tick {n : Int} (h : AK B f g) (hB : 1000 ≤ B ∧ B ≤ 8000000) : (cTick f n).1 = (rTick g n).1 ∧ AK (B + 1000) (cTick f n).2 (rTick g n).2 ∧ vOK (rTick g n).1 := by
  obtain ⟨hS, hI, hP, hZ⟩ := h
  unfold cTick rTick
  have n0 := hI.n0 (j := 0) (by omega)
  have b0 := hI.b 0
  have a0 := hS.1.A
  unfold SmA at a0
  rcases Decidable.em (1 ≤ n ∧ n ≤ 50) with c | c
  · rw [if_neg (show ¬ n < 1 by omega), if_pos (show n ≤ 50 by omega), if_pos c, a0.1]
    refine ⟨rfl, ⟨⟨sm_now (by omega) hS.1 hI, ?_, ?_⟩, (hI.up (show B ≤ B + 1000 by omega)).wr (cm_ct (by omega) (by omega)), pm_of hP (fun j hj => ud_ne (by omega)), zm_ud hZ (by omega)⟩, vk (by show 0 ≤ g 0 + n ∧ g 0 + n < 2147483648 ∨ _; omega)⟩
    · show ud f 0 (g 0 + n) 8 = ud g 0 (g 0 + n) 8
      rw [ud_ne (by omega), ud_ne (by omega)]; exact hS.2.1
    · show ud f 0 (g 0 + n) 14 = ud g 0 (g 0 + n) 20
      rw [ud_ne (by omega), ud_ne (by omega)]; exact hS.2.2
  · rw [if_neg c]
    rcases Decidable.em (n < 1) with c1 | c1
    · rw [if_pos c1]; exact bad_ok ⟨hS, hI, hP, hZ⟩
    · rw [if_neg c1, if_neg (show ¬ n ≤ 50 by omega)]; exact bad_ok ⟨hS, hI, hP, hZ⟩
theorem cdl_at {a v j : Int} (ha : 0 ≤ a ∧ a < 6) (hj : j < 222) : ∀ (m : Nat) (k : Int) (g : Int → Int), k + m = 10 → 0 ≤ k → coldL a v m k g j = g j := by
  intro m
  induction m with
  | zero => intro k g h1 h2; rfl
  | succ m ih =>
    intro k g h1 h2
    have hk : 0 ≤ k ∧ k < 10 := ⟨h2, by omega⟩
    have b2 := eA_b ha hk
    have b3 := oA_b ha hk
    have b4 := lA_b ha hk
    have b5 := dA_b ha hk
    unfold coldL
    split <;> rw [ih (k + 1) _ (by omega) (by omega)] <;> (repeat (first | rfl | rw [ud_ne (by omega)]))
theorem cdl_zm {a v : Int} (ha : 0 ≤ a ∧ a < 6) : ∀ (m : Nat) (k : Int) (g : Int → Int), k + m = 10 → 0 ≤ k → ZM g → ZM (coldL a v m k g) := by
  intro m
  induction m with
  | zero => intro k g h1 h2 h; exact h
  | succ m ih =>
    intro k g h1 h2 h
    have hk : 0 ≤ k ∧ k < 10 := ⟨h2, by omega⟩
    have b2 := eA_b ha hk
    have b3 := oA_b ha hk
    have b4 := lA_b ha hk
    have b5 := dA_b ha hk
    unfold coldL
    split <;> refine ih _ _ (by omega) (by omega) ?_ <;> (repeat (first | exact h | refine zm_ud ?_ (by omega)))
theorem A_cold {a v : Int} (h : AK B f g) (hB : 1000 ≤ B ∧ B ≤ 8000000) : (cCold f a v).1 = (rCold g a v).1 ∧ AK (B + 1000) (cCold f a v).2 (rCold g a v).2 ∧ vOK (rCold g a v).1 := by
  obtain ⟨hS, hI, hP, hZ⟩ := h
  unfold cCold rCold
  rcases Decidable.em (0 ≤ a ∧ a < 6) with ca | ca
  · rw [if_pos ca, if_pos (show 0 ≤ a ∧ a ≤ 5 by omega)]
    rcases Decidable.em (0 ≤ v ∧ v < 2) with cv | cv
    · rw [if_pos cv, if_pos (show 0 ≤ v ∧ v ≤ 1 by omega)]
      have q := sm_turn hS hI hB.1 ca (show v = 0 ∨ v = 1 by omega)
      have co := hI.co ca
      refine ⟨hS.1.C a ca, ⟨q.1, q.2.up (by omega), pm_of hP (fun j hj => ?_), ?_⟩, vk (by show 0 ≤ g (216 + a) ∧ g (216 + a) < 2147483648 ∨ _; omega)⟩
      · show spCold g a v j = g j
        unfold spCold
        split
        · rfl
        · rw [cdl_at ca (by omega) 10 0 _ (by omega) (by omega), ud_ne (by omega)]
      · show ZM (spCold g a v)
        unfold spCold
        split
        · exact hZ
        · exact cdl_zm ca 10 0 _ (by omega) (by omega) (zm_ud hZ (by omega))
    · rw [if_neg cv, if_neg (show ¬ (0 ≤ v ∧ v ≤ 1) by omega)]; exact bad_ok ⟨hS, hI, hP, hZ⟩
  · rw [if_neg ca, if_neg (show ¬ (0 ≤ a ∧ a ≤ 5) by omega)]; exact bad_ok ⟨hS, hI, hP, hZ⟩
theorem A_go {c a : Int} (h : AK B f g) (hB : 1000 ≤ B ∧ B ≤ 8000000) : (cGo f c a).1 = (rGo g c a).1 ∧ AK (B + 1000) (cGo f c a).2 (rGo g c a).2 ∧ vOK (rGo g c a).1 := by
  obtain ⟨hS, hI, hP, hZ⟩ := h
  unfold cGo rGo
  rcases Decidable.em (0 ≤ c ∧ c < 6) with cc | cc
  · rw [if_pos cc, if_pos (show 0 ≤ c ∧ c ≤ 5 by omega)]
    rcases Decidable.em (0 ≤ a ∧ a < 6) with ca | ca
    · rw [if_pos ca, if_pos (show 0 ≤ a ∧ a ≤ 5 by omega)]
      have hcl := hI.cl cc
      have b1 := hA_b cc
      have b2 := cA_b cc
      refine ⟨(hS.1.H c cc).1, ⟨⟨sm_go cc ca hS.1 hI, ?_, ?_⟩, ((hI.up (show B ≤ B + 1000 by omega)).wr (cm_hi cc (by omega) (by omega) (by omega) (by omega) (by omega) (by omega) (by omega) (by omega))).wr (cm_hi cc (by omega) (by omega) (by omega) (by omega) (by omega) (by omega) (by omega) (by omega)), pm_of hP (fun j hj => ?_), zm_ud (zm_ud hZ (by omega)) (by omega)⟩, vk (by show 0 ≤ g (hA c + 0) ∧ g (hA c + 0) < 2147483648 ∨ _; omega)⟩
      · show ud _ _ _ 8 = ud _ _ _ 8
        rw [ud_ne (by omega), ud_ne (by omega), ud_ne (by omega), ud_ne (by omega), ud_ne (by omega)]; exact hS.2.1
      · show ud _ _ _ 14 = ud _ _ _ 20
        rw [ud_ne (by omega), ud_ne (by omega), ud_ne (by omega), ud_ne (by omega), ud_ne (by omega)]; exact hS.2.2
      · show ud _ _ _ j = g j
        rw [ud_ne (by omega), ud_ne (by omega)]
    · rw [if_neg ca, if_neg (show ¬ (0 ≤ a ∧ a ≤ 5) by omega)]; exact bad_ok ⟨hS, hI, hP, hZ⟩
  · rw [if_neg cc, if_neg (show ¬ (0 ≤ c ∧ c ≤ 5) by omega)]; exact bad_ok ⟨hS, hI, hP, hZ⟩
theorem set_ok {i v l m : Int} (h : AK B f g) (hB : 1000 ≤ B ∧ B ≤ 8000000) (hi : 0 ≤ i ∧ i < 7) (hl : l = xv 1 i) (hm : m = xv 2 i) :
    (if v < l then ((-1 : Int), f) else if v ≤ m then (f (3 + i), ud f (3 + i) v) else (-1, f)).1 = (if l ≤ v ∧ v ≤ m then (g (3 + i), ud g (3 + i) v) else (-1, g)).1 ∧ AK (B + 1000) (if v < l then ((-1 : Int), f) else if v ≤ m then (f (3 + i), ud f (3 + i) v) else (-1, f)).2 (if l ≤ v ∧ v ≤ m then (g (3 + i), ud g (3 + i) v) else (-1, g)).2 ∧ vOK (if l ≤ v ∧ v ≤ m then (g (3 + i), ud g (3 + i) v) else (-1, g)).1 := by
  rcases Decidable.em (l ≤ v ∧ v ≤ m) with c | c
  · obtain ⟨hS, hI, hP, hZ⟩ := h
    rw [if_neg (show ¬ v < l by omega), if_pos c.2, if_pos c]
    have st := hI.set
    have hbv : CellM (B + 1000) (3 + i) v ∧ 0 ≤ g (3 + i) ∧ g (3 + i) ≤ 99 := by
      rw [hl, hm] at c
      rcases (by omega : i = 0 ∨ i = 1 ∨ i = 2 ∨ i = 3 ∨ i = 4 ∨ i = 5 ∨ i = 6) with rfl | rfl | rfl | rfl | rfl | rfl | rfl
      · have c1 : 1 ≤ v ∧ v ≤ 8 := c
        exact ⟨by unfold CellM; omega, by show 0 ≤ g 3 ∧ g 3 ≤ 99; omega⟩
      · have c1 : 1 ≤ v ∧ v ≤ 99 := c
        exact ⟨by unfold CellM; omega, by show 0 ≤ g 4 ∧ g 4 ≤ 99; omega⟩
      · have c1 : 0 ≤ v ∧ v ≤ 20 := c
        exact ⟨by unfold CellM; omega, by show 0 ≤ g 5 ∧ g 5 ≤ 99; omega⟩
      · have c1 : 1 ≤ v ∧ v ≤ 20 := c
        exact ⟨by unfold CellM; omega, by show 0 ≤ g 6 ∧ g 6 ≤ 99; omega⟩
      · have c1 : 0 ≤ v ∧ v ≤ 20 := c
        exact ⟨by unfold CellM; omega, by show 0 ≤ g 7 ∧ g 7 ≤ 99; omega⟩
      · have c1 : 0 ≤ v ∧ v ≤ 3 := c
        exact ⟨by unfold CellM; omega, by show 0 ≤ g 8 ∧ g 8 ≤ 99; omega⟩
      · have c1 : 0 ≤ v ∧ v ≤ 1 := c
        exact ⟨by unfold CellM; omega, by show 0 ≤ g 9 ∧ g 9 ≤ 99; omega⟩
    have e1 : f (3 + i) = g (3 + i) := by
      rcases Decidable.em (i = 5) with e | e
      · subst e; exact hS.2.1
      · exact hS.1.T i ⟨hi.1, hi.2, e⟩
    have hSS : Sm (ud f (3 + i) v) (ud g (3 + i) v) := by
      rcases Decidable.em (i = 5) with e | e
      · subst e
        refine ⟨sm_pol hS.1 hI, ?_, ?_⟩
        · rw [ud_at (by omega), ud_at (by omega)]
        · rw [ud_ne (by omega), ud_ne (by omega)]; exact hS.2.2
      · refine ⟨sm_set ⟨hi.1, hi.2, e⟩ hS.1 hI, ?_, ?_⟩
        · rw [ud_ne (by omega), ud_ne (by omega)]; exact hS.2.1
        · rw [ud_ne (by omega), ud_ne (by omega)]; exact hS.2.2
    exact ⟨e1, ⟨hSS, (hI.up (show B ≤ B + 1000 by omega)).wr hbv.1, pm_of hP (fun j hj => ud_ne (by omega)), zm_ud hZ (by omega)⟩, vk (by show 0 ≤ g (3 + i) ∧ g (3 + i) < 2147483648 ∨ _; omega)⟩
  · rw [if_neg c]
    rcases Decidable.em (v < l) with c1 | c1
    · rw [if_pos c1]; exact bad_ok h
    · rw [if_neg c1, if_neg (show ¬ v ≤ m by omega)]; exact bad_ok h
theorem A_set {i v : Int} (h : AK B f g) (hB : 1000 ≤ B ∧ B ≤ 8000000) : (cSet f i v).1 = (rSet g i v).1 ∧ AK (B + 1000) (cSet f i v).2 (rSet g i v).2 ∧ vOK (rSet g i v).1 := by
  unfold cSet
  rcases Decidable.em (0 ≤ i ∧ i < 7) with c | c
  · rw [if_pos c]
    have q := fun l m hl hm => set_ok (i := i) (v := v) (l := l) (m := m) h hB c hl hm
    rcases (by omega : i = 0 ∨ i = 1 ∨ i = 2 ∨ i = 3 ∨ i = 4 ∨ i = 5 ∨ i = 6) with rfl | rfl | rfl | rfl | rfl | rfl | rfl
    · exact q 1 8 rfl rfl
    · exact q 1 99 rfl rfl
    · exact q 0 20 rfl rfl
    · exact q 1 20 rfl rfl
    · exact q 0 20 rfl rfl
    · exact q 0 3 rfl rfl
    · exact q 0 1 rfl rfl
  · have e : rSet g i v = (-1, g) := by
      unfold rSet
      rw [if_neg (by omega), if_neg (by omega), if_neg (by omega), if_neg (by omega), if_neg (by omega), if_neg (by omega), if_neg (by omega)]
    rw [if_neg c, e]
    exact bad_ok h
end JA
