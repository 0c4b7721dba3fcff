/-! an order judged, the reference; values found -/
def anL (g : Int → Int) : Nat → Int → Int → Int
  | 0, _, fl => fl
  | m + 1, k, fl => anL g m (k + 1) (if fl = 0 then (if rOutdated g k = 0 then 0 else 1) else 1)
def RPO (h0 h : AH) (dn km ln at_ ft ik n t s l m un : Int) (o ws dO fv g : Int → Int) : Prop := h.length = h0.length ∧ (∀ i, i ≠ 51 → i ≠ 52 → (i < 60 ∨ 64 ≤ i) → h[i]? = h0[i]?) ∧ h[51]? = some (oO 7 (mF dn km ln at_ ft n t s l m un ik)) ∧ h[52]? = some (oI 1014 g) ∧ h[60]? = some (oI 8 o) ∧ h[61]? = some (oI 8 ws) ∧ h[62]? = some (oI 6 dO) ∧ h[63]? = some (oZ 1000 fv)
def smL (fb : Int → Int) : Nat → Int → Int → Int
  | 0, _, n => n
  | m + 1, q, n => smL fb m (q + 1) (n + pcS (fb q).toNat 64)
def FBr (fb fv : Int → Int) (un : Int) : Prop := B64 fb ∧ (∀ v, 0 ≤ v ∧ v < 1000 → fv v = 0 ∨ fv v = 1) ∧ (∀ v, 0 ≤ v ∧ v < 1000 → ((fb (v / 64)).toNat.testBit (v % 64).toNat = true ↔ fv v = 1)) ∧ un = smL fb 16 0 0
section JU_
variable {X : XS} {h h0 : AH} {Q : Option AV → AH → Prop} {n t s l m un L k B dn km ln at_ ft ik : Int} {o ws dO fv fb f g : Int → Int} {b : Nat × Nat}
theorem anL_eq : ∀ (m : Nat) (k n fl : Int), 0 ≤ n → (fl = 0 ∧ n = 0 ∨ fl = 1 ∧ 0 < n) → (anL g m k fl = 0 ∧ rs3 g m k n = 0 ∨ anL g m k fl = 1 ∧ 0 < rs3 g m k n) := by
  intro m
  induction m with
  | zero => intro k n fl h1 h2; exact h2
  | succ m ih =>
    intro k n fl h1 h2
    unfold anL rs3
    by_cases c : rOutdated g k = 0
    · rw [if_pos c, if_pos c]
      refine ih _ _ _ (by omega) ?_
      split <;> omega
    · rw [if_neg c, if_neg c]
      refine ih _ _ _ (by omega) ?_
      split <;> omega
theorem an_og (hA : AK B f g) : anL g 6 0 0 = 0 ∧ ¬ 0 < wOg f ∨ anL g 6 0 0 = 1 ∧ 0 < wOg f := by
  have e : wOg f = rs3 g 6 0 0 := og_rs hA.1.1 hA.2.1 6 0 0 (by omega) (by omega)
  have q := anL_eq (g := g) 6 0 0 0 (by omega) (by omega)
  rw [e]
  omega
theorem pc_or (a t : Nat) : ∀ m : Nat, pcS (a ||| 2 ^ t) m = pcS a m + (if t < m ∧ ¬ a.testBit t = true then 1 else 0) := by
  intro m
  induction m with
  | zero => rw [if_neg (by omega)]; rfl
  | succ m ih =>
    have e : (a ||| 2 ^ t).testBit m = (a.testBit m || decide (t = m)) := by rw [Nat.testBit_or, Nat.testBit_two_pow]
    have e1 : pcS (a ||| 2 ^ t) (m + 1) = pcS (a ||| 2 ^ t) m + (if (a ||| 2 ^ t).testBit m then 1 else 0) := rfl
    have e2 : pcS a (m + 1) = pcS a m + (if a.testBit m then 1 else 0) := rfl
    rw [e1, e2, ih, e]
    rcases Decidable.em (t = m) with q | q
    · subst q
      rw [if_neg (show ¬ (t < t ∧ ¬ a.testBit t = true) by omega)]
      cases hb : a.testBit t
      · simp
      · simp
    · have z : decide (t = m) = false := by simp [q]
      rw [z, Bool.or_false]
      rcases Decidable.em (t < m) with r | r
      · by_cases hb : a.testBit t = true
        · rw [if_neg (show ¬ (t < m ∧ ¬ a.testBit t = true) from fun y => y.2 hb), if_neg (show ¬ (t < m + 1 ∧ ¬ a.testBit t = true) from fun y => y.2 hb)]; omega
        · rw [if_pos (show t < m ∧ ¬ a.testBit t = true from ⟨r, hb⟩), if_pos (show t < m + 1 ∧ ¬ a.testBit t = true from ⟨by omega, hb⟩)]; omega
      · rw [if_neg (show ¬ (t < m ∧ ¬ a.testBit t = true) by omega), if_neg (show ¬ (t < m + 1 ∧ ¬ a.testBit t = true) by omega)]; omega
theorem smL_n : ∀ (m : Nat) (q n d : Int), smL fb m q (n + d) = smL fb m q n + d := by
  intro m
  induction m with
  | zero => intro q n d; rfl
  | succ m ih => intro q n d; unfold smL; rw [show n + d + pcS (fb q).toNat 64 = n + pcS (fb q).toNat 64 + d by omega, ih]
theorem smL_ud {i z : Int} : ∀ (m : Nat) (q n : Int), q + m = 16 → smL (ud fb i z) m q n = smL fb m q n + (if q ≤ i ∧ i < 16 then pcS z.toNat 64 - pcS (fb i).toNat 64 else 0) := by
  intro m
  induction m with
  | zero => intro q n h; rw [if_neg (by omega)]; unfold smL; omega
  | succ m ih =>
    intro q n h
    unfold smL
    rw [ih _ _ (by omega)]
    rcases Decidable.em (q = i) with e | e
    · subst e
      rw [ud_eq, if_neg (show ¬ (q + 1 ≤ q ∧ q < 16) by omega), if_pos (show q ≤ q ∧ q < 16 by omega), show n + pcS z.toNat 64 = n + pcS (fb q).toNat 64 + (pcS z.toNat 64 - pcS (fb q).toNat 64) by omega, smL_n]
      omega
    · rw [ud_ne e]
      rcases Decidable.em (q ≤ i ∧ i < 16) with r | r
      · rw [if_pos r, if_pos (show q + 1 ≤ i ∧ i < 16 by omega)]
      · rw [if_neg r, if_neg (show ¬ (q + 1 ≤ i ∧ i < 16) by omega)]
theorem FBr.step {v : Int} (h : FBr fb fv un) (hv : 0 ≤ v ∧ v ≤ 999) : FBr (orB fb v) (if fv v = 0 then ud fv v 1 else fv) (if fv v = 0 then un + 1 else un) := by
  obtain ⟨h1, h2, h3, h4⟩ := h
  have z := h1 (v / 64) (by omega)
  have bv := h3 v (by omega)
  have fv01 := h2 v (by omega)
  have hu : ∀ u, ud fv v 1 u = if u = v then 1 else fv u := fun u => rfl
  refine ⟨orB_64 h1 hv, fun u hu2 => ?_, fun u hu2 => ?_, ?_⟩
  · have := h2 u hu2
    split
    · rw [hu]; split <;> omega
    · exact this
  · have bu := h3 u hu2
    have goal1 : (orB fb v (u / 64)).toNat.testBit (u % 64).toNat = true ↔ (u = v ∨ fv u = 1) := by
      unfold orB
      rcases Decidable.em (u / 64 = v / 64) with e | e
      · rw [e, ud_eq]
        have e9 : (((fb (v / 64)).toNat ||| 2 ^ (v % 64).toNat : Nat) : Int).toNat = (fb (v / 64)).toNat ||| 2 ^ (v % 64).toNat := Int.toNat_natCast _
        rw [e9, Nat.testBit_or, Nat.testBit_two_pow, Bool.or_eq_true, ← e, bu, decide_eq_true_eq]
        omega
      · rw [ud_ne e, bu]
        omega
    rw [goal1]
    split
    · rw [hu]; split <;> omega
    · constructor
      · rintro (e | e)
        · rw [e]; omega
        · exact e
      · exact Or.inr
  · unfold orB
    rw [smL_ud 16 0 0 (by omega), if_pos (show 0 ≤ v / 64 ∧ v / 64 < 16 by omega), ← h4]
    have e9 : (((fb (v / 64)).toNat ||| 2 ^ (v % 64).toNat : Nat) : Int).toNat = (fb (v / 64)).toNat ||| 2 ^ (v % 64).toNat := Int.toNat_natCast _
    rw [e9, pc_or]
    rcases Decidable.em (fv v = 0) with c | c
    · have nb : ¬ (fb (v / 64)).toNat.testBit (v % 64).toNat = true := fun q => by have := bv.mp q; omega
      rw [if_pos c, if_pos (show (v % 64).toNat < 64 ∧ ¬ (fb (v / 64)).toNat.testBit (v % 64).toNat = true from ⟨by omega, nb⟩)]; omega
    · have yb := bv.mpr (by omega)
      rw [if_neg c, if_neg (show ¬ ((v % 64).toNat < 64 ∧ ¬ (fb (v / 64)).toNat.testBit (v % 64).toNat = true) from fun q => q.2 yb)]; omega
theorem RPOx : True := trivial
set_option maxHeartbeats 1000000 in
theorem lp_an {key L : Int} (hp : RPO h0 h dn km ln at_ ft ik n t s l m un o ws dO fv g) (hA : AK B f g) (hB : 1000 ≤ B ∧ B ≤ 8000000) : ∀ (mm : Nat) (c fl : Int), c + mm = 6 → 0 ≤ c → (fl = 0 ∨ fl = 1) → Wp X kX7_judges 47 [some (vR 51), some (vI key), some (vI L), some (vI (anL g mm c fl)), some (vI 6)] [] h b Q → Wp X kX7_judges 15 [some (vR 51), some (vI key), some (vI L), some (vI fl), some (vI c)] [] h b Q := by
  obtain ⟨s1, s2, s51, s52, s60, s61, s62, s63⟩ := id hp
  have hO := fun k => rOut_r hA.1 hA.2.1 k
  intro mm
  induction mm with
  | zero =>
    intro c fl q1 q2 q3 hQ
    have e : c = 6 := by omega
    subst e
    refine wp_iload dX7_judges_15 rfl ?_
    refine wp_bipush dX7_judges_17 rfl ?_
    refine wp_icmp_ge 47 dX7_judges_19 rfl ⟨by omega, by omega⟩ ⟨by omega, by omega⟩ (fun c19 => ?_) (fun c19 => absurd c19 (by omega))
    exact hQ
  | succ mm ih =>
    intro c fl q1 q2 q3 hQ
    have ho := hO c
    unfold anL at hQ
    refine wp_iload dX7_judges_15 rfl ?_
    refine wp_bipush dX7_judges_17 rfl ?_
    refine wp_icmp_ge 47 dX7_judges_19 rfl (by first | assumption | (unfold r32; omega)) ⟨by omega, by omega⟩ (fun c19 => ?_) (fun c19 => ?_)
    · exfalso; omega
    · refine wp_iload_n dX7_judges_22 rfl ?_
      refine wp_if_ne 35 dX7_judges_23 rfl (by first | assumption | (unfold r32; omega)) (fun c23 => ?_) (fun c23 => ?_)
      · refine wp_iconst dX7_judges_35 ?_
        refine wp_goto 40 dX7_judges_36 rfl ?_
        refine wp_istore_n (L' := [some (vR 51), some (vI key), some (vI L), some (vI 1), some (vI c)]) dX7_judges_40 (by decide) rfl ?_
        refine wp_iinc (L' := [some (vR 51), some (vI key), some (vI L), some (vI 1), some (vI (c + 1))]) dX7_judges_41 rfl rfl ?_
        refine wp_goto 15 dX7_judges_44 rfl ?_
        first | (rw [if_pos (by omega), if_pos (by omega)] at hQ; exact ih (c + 1) _ (by omega) (by omega) (by omega) hQ) | (rw [if_pos (by omega), if_neg (by omega)] at hQ; exact ih (c + 1) _ (by omega) (by omega) (by omega) hQ) | (rw [if_neg (by omega)] at hQ; exact ih (c + 1) _ (by omega) (by omega) (by omega) hQ)
      · refine wp_aload_n dX7_judges_26 rfl ?_
        refine wp_iload dX7_judges_27 rfl ?_
        refine wp_iv1 dX7_judges_29 VX7_outdated lX7_294 s51 (rq0 rfl rfl) (Nat.le_of_ble_eq_true rfl) (sa_of s52 (C_routdated (sa_mk (by decide) s51 rfl s52) hA.2.1 (by omega) (by unfold r32; omega) ?_))
        dsimp only [pushR]
        rw [set_same s52]
        refine wp_if_eq 39 dX7_judges_32 rfl (by first | assumption | (unfold r32; omega)) (fun c32 => ?_) (fun c32 => ?_)
        · refine wp_iconst dX7_judges_39 ?_
          refine wp_istore_n (L' := [some (vR 51), some (vI key), some (vI L), some (vI 0), some (vI c)]) dX7_judges_40 (by decide) rfl ?_
          refine wp_iinc (L' := [some (vR 51), some (vI key), some (vI L), some (vI 0), some (vI (c + 1))]) dX7_judges_41 rfl rfl ?_
          refine wp_goto 15 dX7_judges_44 rfl ?_
          first | (rw [if_pos (by omega), if_pos (by omega)] at hQ; exact ih (c + 1) _ (by omega) (by omega) (by omega) hQ) | (rw [if_pos (by omega), if_neg (by omega)] at hQ; exact ih (c + 1) _ (by omega) (by omega) (by omega) hQ) | (rw [if_neg (by omega)] at hQ; exact ih (c + 1) _ (by omega) (by omega) (by omega) hQ)
        · refine wp_iconst dX7_judges_35 ?_
          refine wp_goto 40 dX7_judges_36 rfl ?_
          refine wp_istore_n (L' := [some (vR 51), some (vI key), some (vI L), some (vI 1), some (vI c)]) dX7_judges_40 (by decide) rfl ?_
          refine wp_iinc (L' := [some (vR 51), some (vI key), some (vI L), some (vI 1), some (vI (c + 1))]) dX7_judges_41 rfl rfl ?_
          refine wp_goto 15 dX7_judges_44 rfl ?_
          first | (rw [if_pos (by omega), if_pos (by omega)] at hQ; exact ih (c + 1) _ (by omega) (by omega) (by omega) hQ) | (rw [if_pos (by omega), if_neg (by omega)] at hQ; exact ih (c + 1) _ (by omega) (by omega) (by omega) hQ) | (rw [if_neg (by omega)] at hQ; exact ih (c + 1) _ (by omega) (by omega) (by omega) hQ)
set_option maxHeartbeats 2000000 in
theorem C_judges {key : Int} (hp : RPO h0 h dn km ln at_ ft ik n t s l m un o ws dO fv g) (hA : AK B f g) (hB : 1000 ≤ B ∧ B ≤ 8000000) (hn : 0 ≤ n ∧ n ≤ 8) (hk : 0 ≤ key ∧ key < 10) (rL : r32 L) (rl : r32 l) (rm : r32 m) (hs : 0 ≤ s ∧ s ≤ 1000000) (hf : ∀ v, 0 ≤ v ∧ v < 1000 → fv v = 0 ∨ fv v = 1) (hQ : ∀ h', RPO h0 h' dn km ln at_ ft ik n (t + 1) (if anL g 6 0 0 = 1 then s + 1 else s) (mnI l L) (mxI m L) (if g 0 < g (eA 0 key) ∧ fv (g (eA 0 key + 1)) = 0 then un + 1 else un) o (if anL g 6 0 0 = 1 ∧ s = 0 then cpI o ws 0 0 n else ws) dO (if g 0 < g (eA 0 key) ∧ fv (g (eA 0 key + 1)) = 0 then ud fv (g (eA 0 key + 1)) 1 else fv) g → Q none h') : Cl X kX7_judges [vR 51, vI key, vI L] h Q := by
  refine cl_of rfl (Nat.le_of_ble_eq_true rfl) rfl ?_
  obtain ⟨s1, s2, s51, s52, s60, s61, s62, s63⟩ := id hp
  have hI := hA.2.1
  have hR := hI.r (by omega)
  have pe := eA_b (show (0 : Int) ≤ 0 ∧ (0 : Int) < 6 by omega) hk
  have en := (hI.en (a := 0) (k := key) (by omega) hk).2.1
  have ao := an_og hA
  have fz := hf (g (eA 0 key + 1)) (by omega)
  have rfz : r32 (fv (g (eA 0 key + 1))) := by unfold r32; omega
  refine wp_aload_n dX7_judges_0 rfl ?_
  refine wp_dup dX7_judges_1 rfl ?_
  refine wp_getf dX7_judges_2 fX7_260 s51 rfl ?_
  refine wp_iconst dX7_judges_5 ?_
  refine wp_iadd dX7_judges_6 ?_
  refine wp_putv (fs' := mF dn km ln at_ ft n (t + 1) s l m un ik) dX7_judges_7 (pX7_260 rfl) s51 (Nat.le_of_ble_eq_true rfl) (fitF_int _) rfl ?_
  refine wp_iconst dX7_judges_10 ?_
  refine wp_istore_n (L' := [some (vR 51), some (vI key), some (vI L), some (vI 0), none]) dX7_judges_11 (by decide) rfl ?_
  refine wp_iconst dX7_judges_12 ?_
  refine wp_istore (L' := [some (vR 51), some (vI key), some (vI L), some (vI 0), some (vI 0)]) dX7_judges_13 (by decide) rfl ?_
  have hp2 : RPO h0 (h.set 51 (oO 7 (mF dn km ln at_ ft n (t + 1) s l m un ik))) dn km ln at_ ft ik n (t + 1) s l m un o ws dO fv g := ⟨by simp only [List.length_set]; exact s1, fun j q51 q52 q => by (repeat rw [List.getElem?_set_ne (by omega)]); exact s2 j q51 q52 q, (gs_eq (gs_lt s51)), (gs_ne (by decide) s52), (gs_ne (by decide) s60), (gs_ne (by decide) s61), (gs_ne (by decide) s62), (gs_ne (by decide) s63)⟩
  refine lp_an hp2 hA hB 6 0 0 (by omega) (by omega) (Or.inl rfl) ?_
  generalize anL g 6 0 0 = an at *
  refine wp_iload_n dX7_judges_47 rfl ?_
  refine wp_if_eq 86 dX7_judges_48 rfl (by first | assumption | (unfold r32; omega)) (fun c48 => ?_) (fun c48 => ?_)
  · refine wp_aload_n dX7_judges_86 rfl ?_
    refine wp_aload_n dX7_judges_87 rfl ?_
    refine wp_getf dX7_judges_88 fX7_269 (gs_eq (gs_lt s51)) rfl ?_
    refine wp_iload_n dX7_judges_91 rfl ?_
    refine wp_min dX7_judges_92 lX7_297 (by first | assumption | (unfold r32; omega)) (by first | assumption | (unfold r32; omega)) (Nat.le_of_ble_eq_true rfl) (Nat.le_of_ble_eq_true rfl) ?_
    refine wp_putv (fs' := mF dn km ln at_ ft n (t + 1) s (mnI l L) m un ik) dX7_judges_95 (pX7_269 rfl) (gs_eq (gs_lt s51)) (Nat.le_of_ble_eq_true rfl) (fitF_int _) rfl ?_
    refine wp_aload_n dX7_judges_98 rfl ?_
    refine wp_aload_n dX7_judges_99 rfl ?_
    refine wp_getf dX7_judges_100 fX7_272 (gs_eq (gs_l (gs_lt s51))) rfl ?_
    refine wp_iload_n dX7_judges_103 rfl ?_
    refine wp_max dX7_judges_104 lX7_302 (by first | assumption | (unfold r32; omega)) (by first | assumption | (unfold r32; omega)) (Nat.le_of_ble_eq_true rfl) (Nat.le_of_ble_eq_true rfl) ?_
    refine wp_putv (fs' := mF dn km ln at_ ft n (t + 1) s (mnI l L) (mxI m L) un ik) dX7_judges_107 (pX7_272 rfl) (gs_eq (gs_l (gs_lt s51))) (Nat.le_of_ble_eq_true rfl) (fitF_int _) rfl ?_
    refine wp_iconst dX7_judges_110 ?_
    refine wp_iload_n dX7_judges_111 rfl ?_
    refine wp_is2 dX7_judges_112 SX7_entryAt lX7_112 (rq0 rfl rfl) (Nat.le_of_ble_eq_true rfl) (C_entryAt ?_)
    dsimp only [pushR]
    refine wp_istore (L' := [some (vR 51), some (vI key), some (vI L), some (vI an), some (vI (eA 0 key))]) dX7_judges_115 (by decide) rfl ?_
    refine wp_aload_n dX7_judges_117 rfl ?_
    refine wp_iload dX7_judges_118 rfl ?_
    refine wp_iv1 dX7_judges_120 VX7_isThere lX7_115 (gs_eq (gs_l (gs_l (gs_lt s51)))) (rq0 rfl rfl) (Nat.le_of_ble_eq_true rfl) (sa_of (gs_ne (by decide) (gs_ne (by decide) (gs_ne (by decide) s52))) (C_isThere (sa_mk (by decide) (gs_eq (gs_l (gs_l (gs_lt s51)))) rfl (gs_ne (by decide) (gs_ne (by decide) (gs_ne (by decide) s52)))) (by omega) rfl rfl (hR _) (hR _) ?_))
    dsimp only [pushR]
    rw [set_same (gs_ne (by decide) (gs_ne (by decide) (gs_ne (by decide) s52)))]
    refine wp_beq 168 dX7_judges_123 rfl (fun c123 => ?_) (fun c123 => ?_)
    · exact wp_ret dX7_judges_168 rfl (by
          (repeat' split at hQ) <;> first | (exfalso; omega) | exact hQ _ ⟨by simp only [List.length_set]; exact s1, fun j q51 q52 q => by (repeat rw [List.getElem?_set_ne (by omega)]); exact s2 j q51 q52 q, (gs_eq (gs_l (gs_l (gs_lt s51)))), (gs_ne (by decide) (gs_ne (by decide) (gs_ne (by decide) s52))), (gs_ne (by decide) (gs_ne (by decide) (gs_ne (by decide) s60))), (gs_ne (by decide) (gs_ne (by decide) (gs_ne (by decide) s61))), (gs_ne (by decide) (gs_ne (by decide) (gs_ne (by decide) s62))), (gs_ne (by decide) (gs_ne (by decide) (gs_ne (by decide) s63)))⟩)
    · refine wp_aload_n dX7_judges_126 rfl ?_
      refine wp_getf dX7_judges_127 fX7_60 (gs_eq (gs_l (gs_l (gs_lt s51)))) rfl ?_
      refine wp_aload_n dX7_judges_130 rfl ?_
      refine wp_getf dX7_judges_131 fX7_9 (gs_eq (gs_l (gs_l (gs_lt s51)))) rfl ?_
      refine wp_iload dX7_judges_134 rfl ?_
      refine wp_iconst dX7_judges_136 ?_
      refine wp_iadd dX7_judges_137 ?_
      refine wp_iav (v := g (eA 0 key + 1)) dX7_judges_138 (gs_ne (by decide) (gs_ne (by decide) (gs_ne (by decide) s52))) (by decide) (by omega) rfl ?_
      refine wp_zav (v := fv (g (eA 0 key + 1))) dX7_judges_139 (gs_ne (by decide) (gs_ne (by decide) (gs_ne (by decide) s63))) (by decide) (by omega) rfl ?_
      refine wp_if_ne 168 dX7_judges_140 rfl (by first | assumption | (unfold r32; omega)) (fun c140 => ?_) (fun c140 => ?_)
      · exact wp_ret dX7_judges_168 rfl (by
            (repeat' split at hQ) <;> first | (exfalso; omega) | exact hQ _ ⟨by simp only [List.length_set]; exact s1, fun j q51 q52 q => by (repeat rw [List.getElem?_set_ne (by omega)]); exact s2 j q51 q52 q, (gs_eq (gs_l (gs_l (gs_lt s51)))), (gs_ne (by decide) (gs_ne (by decide) (gs_ne (by decide) s52))), (gs_ne (by decide) (gs_ne (by decide) (gs_ne (by decide) s60))), (gs_ne (by decide) (gs_ne (by decide) (gs_ne (by decide) s61))), (gs_ne (by decide) (gs_ne (by decide) (gs_ne (by decide) s62))), (gs_ne (by decide) (gs_ne (by decide) (gs_ne (by decide) s63)))⟩)
      · refine wp_aload_n dX7_judges_143 rfl ?_
        refine wp_getf dX7_judges_144 fX7_60 (gs_eq (gs_l (gs_l (gs_lt s51)))) rfl ?_
        refine wp_aload_n dX7_judges_147 rfl ?_
        refine wp_getf dX7_judges_148 fX7_9 (gs_eq (gs_l (gs_l (gs_lt s51)))) rfl ?_
        refine wp_iload dX7_judges_151 rfl ?_
        refine wp_iconst dX7_judges_153 ?_
        refine wp_iadd dX7_judges_154 ?_
        refine wp_iav (v := g (eA 0 key + 1)) dX7_judges_155 (gs_ne (by decide) (gs_ne (by decide) (gs_ne (by decide) s52))) (by decide) (by omega) rfl ?_
        refine wp_iconst dX7_judges_156 ?_
        refine wp_zsv dX7_judges_157 (gs_ne (by decide) (gs_ne (by decide) (gs_ne (by decide) s63))) (by decide) (by omega) (Or.inr rfl) ?_
        refine wp_aload_n dX7_judges_158 rfl ?_
        refine wp_dup dX7_judges_159 rfl ?_
        refine wp_getf dX7_judges_160 fX7_275 (gs_ne (by decide) (gs_eq (gs_l (gs_l (gs_lt s51))))) rfl ?_
        refine wp_iconst dX7_judges_163 ?_
        refine wp_iadd dX7_judges_164 ?_
        refine wp_putv (fs' := mF dn km ln at_ ft n (t + 1) s (mnI l L) (mxI m L) (un + 1) ik) dX7_judges_165 (pX7_275 rfl) (gs_ne (by decide) (gs_eq (gs_l (gs_l (gs_lt s51))))) (Nat.le_of_ble_eq_true rfl) (fitF_int _) rfl ?_
        exact wp_ret dX7_judges_168 rfl (by
            (repeat' split at hQ) <;> first | (exfalso; omega) | exact hQ _ ⟨by simp only [List.length_set]; exact s1, fun j q51 q52 q => by (repeat rw [List.getElem?_set_ne (by omega)]); exact s2 j q51 q52 q, (gs_eq (gs_l (gs_l (gs_l (gs_l (gs_lt s51)))))), (gs_ne (by decide) (gs_ne (by decide) (gs_ne (by decide) (gs_ne (by decide) (gs_ne (by decide) s52))))), (gs_ne (by decide) (gs_ne (by decide) (gs_ne (by decide) (gs_ne (by decide) (gs_ne (by decide) s60))))), (gs_ne (by decide) (gs_ne (by decide) (gs_ne (by decide) (gs_ne (by decide) (gs_ne (by decide) s61))))), (gs_ne (by decide) (gs_ne (by decide) (gs_ne (by decide) (gs_ne (by decide) (gs_ne (by decide) s62))))), (gs_ne (by decide) (gs_eq (gs_l (gs_l (gs_l (gs_lt s63))))))⟩)
  · refine wp_aload_n dX7_judges_51 rfl ?_
    refine wp_dup dX7_judges_52 rfl ?_
    refine wp_getf dX7_judges_53 fX7_263 (gs_eq (gs_lt s51)) rfl ?_
    refine wp_iconst dX7_judges_56 ?_
    refine wp_iadd dX7_judges_57 ?_
    refine wp_putv (fs' := mF dn km ln at_ ft n (t + 1) (s + 1) l m un ik) dX7_judges_58 (pX7_263 rfl) (gs_eq (gs_lt s51)) (Nat.le_of_ble_eq_true rfl) (fitF_int _) rfl ?_
    refine wp_aload_n dX7_judges_61 rfl ?_
    refine wp_getf dX7_judges_62 fX7_263 (gs_eq (gs_l (gs_lt s51))) rfl ?_
    refine wp_iconst dX7_judges_65 ?_
    refine wp_icmp_ne 86 dX7_judges_66 rfl (by first | assumption | (unfold r32; omega)) ⟨by omega, by omega⟩ (fun c66 => ?_) (fun c66 => ?_)
    · refine wp_aload_n dX7_judges_86 rfl ?_
      refine wp_aload_n dX7_judges_87 rfl ?_
      refine wp_getf dX7_judges_88 fX7_269 (gs_eq (gs_l (gs_lt s51))) rfl ?_
      refine wp_iload_n dX7_judges_91 rfl ?_
      refine wp_min dX7_judges_92 lX7_297 (by first | assumption | (unfold r32; omega)) (by first | assumption | (unfold r32; omega)) (Nat.le_of_ble_eq_true rfl) (Nat.le_of_ble_eq_true rfl) ?_
      refine wp_putv (fs' := mF dn km ln at_ ft n (t + 1) (s + 1) (mnI l L) m un ik) dX7_judges_95 (pX7_269 rfl) (gs_eq (gs_l (gs_lt s51))) (Nat.le_of_ble_eq_true rfl) (fitF_int _) rfl ?_
      refine wp_aload_n dX7_judges_98 rfl ?_
      refine wp_aload_n dX7_judges_99 rfl ?_
      refine wp_getf dX7_judges_100 fX7_272 (gs_eq (gs_l (gs_l (gs_lt s51)))) rfl ?_
      refine wp_iload_n dX7_judges_103 rfl ?_
      refine wp_max dX7_judges_104 lX7_302 (by first | assumption | (unfold r32; omega)) (by first | assumption | (unfold r32; omega)) (Nat.le_of_ble_eq_true rfl) (Nat.le_of_ble_eq_true rfl) ?_
      refine wp_putv (fs' := mF dn km ln at_ ft n (t + 1) (s + 1) (mnI l L) (mxI m L) un ik) dX7_judges_107 (pX7_272 rfl) (gs_eq (gs_l (gs_l (gs_lt s51)))) (Nat.le_of_ble_eq_true rfl) (fitF_int _) rfl ?_
      refine wp_iconst dX7_judges_110 ?_
      refine wp_iload_n dX7_judges_111 rfl ?_
      refine wp_is2 dX7_judges_112 SX7_entryAt lX7_112 (rq0 rfl rfl) (Nat.le_of_ble_eq_true rfl) (C_entryAt ?_)
      dsimp only [pushR]
      refine wp_istore (L' := [some (vR 51), some (vI key), some (vI L), some (vI an), some (vI (eA 0 key))]) dX7_judges_115 (by decide) rfl ?_
      refine wp_aload_n dX7_judges_117 rfl ?_
      refine wp_iload dX7_judges_118 rfl ?_
      refine wp_iv1 dX7_judges_120 VX7_isThere lX7_115 (gs_eq (gs_l (gs_l (gs_l (gs_lt s51))))) (rq0 rfl rfl) (Nat.le_of_ble_eq_true rfl) (sa_of (gs_ne (by decide) (gs_ne (by decide) (gs_ne (by decide) (gs_ne (by decide) s52)))) (C_isThere (sa_mk (by decide) (gs_eq (gs_l (gs_l (gs_l (gs_lt s51))))) rfl (gs_ne (by decide) (gs_ne (by decide) (gs_ne (by decide) (gs_ne (by decide) s52))))) (by omega) rfl rfl (hR _) (hR _) ?_))
      dsimp only [pushR]
      rw [set_same (gs_ne (by decide) (gs_ne (by decide) (gs_ne (by decide) (gs_ne (by decide) s52))))]
      refine wp_beq 168 dX7_judges_123 rfl (fun c123 => ?_) (fun c123 => ?_)
      · exact wp_ret dX7_judges_168 rfl (by
            (repeat' split at hQ) <;> first | (exfalso; omega) | exact hQ _ ⟨by simp only [List.length_set]; exact s1, fun j q51 q52 q => by (repeat rw [List.getElem?_set_ne (by omega)]); exact s2 j q51 q52 q, (gs_eq (gs_l (gs_l (gs_l (gs_lt s51))))), (gs_ne (by decide) (gs_ne (by decide) (gs_ne (by decide) (gs_ne (by decide) s52)))), (gs_ne (by decide) (gs_ne (by decide) (gs_ne (by decide) (gs_ne (by decide) s60)))), (gs_ne (by decide) (gs_ne (by decide) (gs_ne (by decide) (gs_ne (by decide) s61)))), (gs_ne (by decide) (gs_ne (by decide) (gs_ne (by decide) (gs_ne (by decide) s62)))), (gs_ne (by decide) (gs_ne (by decide) (gs_ne (by decide) (gs_ne (by decide) s63))))⟩)
      · refine wp_aload_n dX7_judges_126 rfl ?_
        refine wp_getf dX7_judges_127 fX7_60 (gs_eq (gs_l (gs_l (gs_l (gs_lt s51))))) rfl ?_
        refine wp_aload_n dX7_judges_130 rfl ?_
        refine wp_getf dX7_judges_131 fX7_9 (gs_eq (gs_l (gs_l (gs_l (gs_lt s51))))) rfl ?_
        refine wp_iload dX7_judges_134 rfl ?_
        refine wp_iconst dX7_judges_136 ?_
        refine wp_iadd dX7_judges_137 ?_
        refine wp_iav (v := g (eA 0 key + 1)) dX7_judges_138 (gs_ne (by decide) (gs_ne (by decide) (gs_ne (by decide) (gs_ne (by decide) s52)))) (by decide) (by omega) rfl ?_
        refine wp_zav (v := fv (g (eA 0 key + 1))) dX7_judges_139 (gs_ne (by decide) (gs_ne (by decide) (gs_ne (by decide) (gs_ne (by decide) s63)))) (by decide) (by omega) rfl ?_
        refine wp_if_ne 168 dX7_judges_140 rfl (by first | assumption | (unfold r32; omega)) (fun c140 => ?_) (fun c140 => ?_)
        · exact wp_ret dX7_judges_168 rfl (by
              (repeat' split at hQ) <;> first | (exfalso; omega) | exact hQ _ ⟨by simp only [List.length_set]; exact s1, fun j q51 q52 q => by (repeat rw [List.getElem?_set_ne (by omega)]); exact s2 j q51 q52 q, (gs_eq (gs_l (gs_l (gs_l (gs_lt s51))))), (gs_ne (by decide) (gs_ne (by decide) (gs_ne (by decide) (gs_ne (by decide) s52)))), (gs_ne (by decide) (gs_ne (by decide) (gs_ne (by decide) (gs_ne (by decide) s60)))), (gs_ne (by decide) (gs_ne (by decide) (gs_ne (by decide) (gs_ne (by decide) s61)))), (gs_ne (by decide) (gs_ne (by decide) (gs_ne (by decide) (gs_ne (by decide) s62)))), (gs_ne (by decide) (gs_ne (by decide) (gs_ne (by decide) (gs_ne (by decide) s63))))⟩)
        · refine wp_aload_n dX7_judges_143 rfl ?_
          refine wp_getf dX7_judges_144 fX7_60 (gs_eq (gs_l (gs_l (gs_l (gs_lt s51))))) rfl ?_
          refine wp_aload_n dX7_judges_147 rfl ?_
          refine wp_getf dX7_judges_148 fX7_9 (gs_eq (gs_l (gs_l (gs_l (gs_lt s51))))) rfl ?_
          refine wp_iload dX7_judges_151 rfl ?_
          refine wp_iconst dX7_judges_153 ?_
          refine wp_iadd dX7_judges_154 ?_
          refine wp_iav (v := g (eA 0 key + 1)) dX7_judges_155 (gs_ne (by decide) (gs_ne (by decide) (gs_ne (by decide) (gs_ne (by decide) s52)))) (by decide) (by omega) rfl ?_
          refine wp_iconst dX7_judges_156 ?_
          refine wp_zsv dX7_judges_157 (gs_ne (by decide) (gs_ne (by decide) (gs_ne (by decide) (gs_ne (by decide) s63)))) (by decide) (by omega) (Or.inr rfl) ?_
          refine wp_aload_n dX7_judges_158 rfl ?_
          refine wp_dup dX7_judges_159 rfl ?_
          refine wp_getf dX7_judges_160 fX7_275 (gs_ne (by decide) (gs_eq (gs_l (gs_l (gs_l (gs_lt s51)))))) rfl ?_
          refine wp_iconst dX7_judges_163 ?_
          refine wp_iadd dX7_judges_164 ?_
          refine wp_putv (fs' := mF dn km ln at_ ft n (t + 1) (s + 1) (mnI l L) (mxI m L) (un + 1) ik) dX7_judges_165 (pX7_275 rfl) (gs_ne (by decide) (gs_eq (gs_l (gs_l (gs_l (gs_lt s51)))))) (Nat.le_of_ble_eq_true rfl) (fitF_int _) rfl ?_
          exact wp_ret dX7_judges_168 rfl (by
              (repeat' split at hQ) <;> first | (exfalso; omega) | exact hQ _ ⟨by simp only [List.length_set]; exact s1, fun j q51 q52 q => by (repeat rw [List.getElem?_set_ne (by omega)]); exact s2 j q51 q52 q, (gs_eq (gs_l (gs_l (gs_l (gs_l (gs_l (gs_lt s51))))))), (gs_ne (by decide) (gs_ne (by decide) (gs_ne (by decide) (gs_ne (by decide) (gs_ne (by decide) (gs_ne (by decide) s52)))))), (gs_ne (by decide) (gs_ne (by decide) (gs_ne (by decide) (gs_ne (by decide) (gs_ne (by decide) (gs_ne (by decide) s60)))))), (gs_ne (by decide) (gs_ne (by decide) (gs_ne (by decide) (gs_ne (by decide) (gs_ne (by decide) (gs_ne (by decide) s61)))))), (gs_ne (by decide) (gs_ne (by decide) (gs_ne (by decide) (gs_ne (by decide) (gs_ne (by decide) (gs_ne (by decide) s62)))))), (gs_ne (by decide) (gs_eq (gs_l (gs_l (gs_l (gs_l (gs_lt s63)))))))⟩)
    · refine wp_aload_n dX7_judges_69 rfl ?_
      refine wp_getf dX7_judges_70 fX7_51 (gs_eq (gs_l (gs_lt s51))) rfl ?_
      refine wp_iconst dX7_judges_73 ?_
      refine wp_aload_n dX7_judges_74 rfl ?_
      refine wp_getf dX7_judges_75 fX7_54 (gs_eq (gs_l (gs_lt s51))) rfl ?_
      refine wp_iconst dX7_judges_78 ?_
      refine wp_aload_n dX7_judges_79 rfl ?_
      refine wp_getf dX7_judges_80 fX7_257 (gs_eq (gs_l (gs_lt s51))) rfl ?_
      refine wp_copyi dX7_judges_83 aX7_86 (gs_ne (by decide) (gs_ne (by decide) s60)) (gs_ne (by decide) (gs_ne (by decide) s61)) (by decide) (by decide) (by omega) (by omega) (by omega) (by omega) (by omega) (Nat.le_of_ble_eq_true rfl) (Nat.le_of_ble_eq_true rfl) ?_
      refine wp_aload_n dX7_judges_86 rfl ?_
      refine wp_aload_n dX7_judges_87 rfl ?_
      refine wp_getf dX7_judges_88 fX7_269 (gs_ne (by decide) (gs_eq (gs_l (gs_lt s51)))) rfl ?_
      refine wp_iload_n dX7_judges_91 rfl ?_
      refine wp_min dX7_judges_92 lX7_297 (by first | assumption | (unfold r32; omega)) (by first | assumption | (unfold r32; omega)) (Nat.le_of_ble_eq_true rfl) (Nat.le_of_ble_eq_true rfl) ?_
      refine wp_putv (fs' := mF dn km ln at_ ft n (t + 1) (s + 1) (mnI l L) m un ik) dX7_judges_95 (pX7_269 rfl) (gs_ne (by decide) (gs_eq (gs_l (gs_lt s51)))) (Nat.le_of_ble_eq_true rfl) (fitF_int _) rfl ?_
      refine wp_aload_n dX7_judges_98 rfl ?_
      refine wp_aload_n dX7_judges_99 rfl ?_
      refine wp_getf dX7_judges_100 fX7_272 (gs_eq (gs_l (gs_l (gs_l (gs_lt s51))))) rfl ?_
      refine wp_iload_n dX7_judges_103 rfl ?_
      refine wp_max dX7_judges_104 lX7_302 (by first | assumption | (unfold r32; omega)) (by first | assumption | (unfold r32; omega)) (Nat.le_of_ble_eq_true rfl) (Nat.le_of_ble_eq_true rfl) ?_
      refine wp_putv (fs' := mF dn km ln at_ ft n (t + 1) (s + 1) (mnI l L) (mxI m L) un ik) dX7_judges_107 (pX7_272 rfl) (gs_eq (gs_l (gs_l (gs_l (gs_lt s51))))) (Nat.le_of_ble_eq_true rfl) (fitF_int _) rfl ?_
      refine wp_iconst dX7_judges_110 ?_
      refine wp_iload_n dX7_judges_111 rfl ?_
      refine wp_is2 dX7_judges_112 SX7_entryAt lX7_112 (rq0 rfl rfl) (Nat.le_of_ble_eq_true rfl) (C_entryAt ?_)
      dsimp only [pushR]
      refine wp_istore (L' := [some (vR 51), some (vI key), some (vI L), some (vI an), some (vI (eA 0 key))]) dX7_judges_115 (by decide) rfl ?_
      refine wp_aload_n dX7_judges_117 rfl ?_
      refine wp_iload dX7_judges_118 rfl ?_
      refine wp_iv1 dX7_judges_120 VX7_isThere lX7_115 (gs_eq (gs_l (gs_l (gs_l (gs_l (gs_lt s51)))))) (rq0 rfl rfl) (Nat.le_of_ble_eq_true rfl) (sa_of (gs_ne (by decide) (gs_ne (by decide) (gs_ne (by decide) (gs_ne (by decide) (gs_ne (by decide) s52))))) (C_isThere (sa_mk (by decide) (gs_eq (gs_l (gs_l (gs_l (gs_l (gs_lt s51)))))) rfl (gs_ne (by decide) (gs_ne (by decide) (gs_ne (by decide) (gs_ne (by decide) (gs_ne (by decide) s52)))))) (by omega) rfl rfl (hR _) (hR _) ?_))
      dsimp only [pushR]
      rw [set_same (gs_ne (by decide) (gs_ne (by decide) (gs_ne (by decide) (gs_ne (by decide) (gs_ne (by decide) s52)))))]
      refine wp_beq 168 dX7_judges_123 rfl (fun c123 => ?_) (fun c123 => ?_)
      · exact wp_ret dX7_judges_168 rfl (by
            (repeat' split at hQ) <;> first | (exfalso; omega) | exact hQ _ ⟨by simp only [List.length_set]; exact s1, fun j q51 q52 q => by (repeat rw [List.getElem?_set_ne (by omega)]); exact s2 j q51 q52 q, (gs_eq (gs_l (gs_l (gs_l (gs_l (gs_lt s51)))))), (gs_ne (by decide) (gs_ne (by decide) (gs_ne (by decide) (gs_ne (by decide) (gs_ne (by decide) s52))))), (gs_ne (by decide) (gs_ne (by decide) (gs_ne (by decide) (gs_ne (by decide) (gs_ne (by decide) s60))))), (gs_ne (by decide) (gs_ne (by decide) (gs_eq (gs_l (gs_l (gs_lt s61)))))), (gs_ne (by decide) (gs_ne (by decide) (gs_ne (by decide) (gs_ne (by decide) (gs_ne (by decide) s62))))), (gs_ne (by decide) (gs_ne (by decide) (gs_ne (by decide) (gs_ne (by decide) (gs_ne (by decide) s63)))))⟩)
      · refine wp_aload_n dX7_judges_126 rfl ?_
        refine wp_getf dX7_judges_127 fX7_60 (gs_eq (gs_l (gs_l (gs_l (gs_l (gs_lt s51)))))) rfl ?_
        refine wp_aload_n dX7_judges_130 rfl ?_
        refine wp_getf dX7_judges_131 fX7_9 (gs_eq (gs_l (gs_l (gs_l (gs_l (gs_lt s51)))))) rfl ?_
        refine wp_iload dX7_judges_134 rfl ?_
        refine wp_iconst dX7_judges_136 ?_
        refine wp_iadd dX7_judges_137 ?_
        refine wp_iav (v := g (eA 0 key + 1)) dX7_judges_138 (gs_ne (by decide) (gs_ne (by decide) (gs_ne (by decide) (gs_ne (by decide) (gs_ne (by decide) s52))))) (by decide) (by omega) rfl ?_
        refine wp_zav (v := fv (g (eA 0 key + 1))) dX7_judges_139 (gs_ne (by decide) (gs_ne (by decide) (gs_ne (by decide) (gs_ne (by decide) (gs_ne (by decide) s63))))) (by decide) (by omega) rfl ?_
        refine wp_if_ne 168 dX7_judges_140 rfl (by first | assumption | (unfold r32; omega)) (fun c140 => ?_) (fun c140 => ?_)
        · exact wp_ret dX7_judges_168 rfl (by
              (repeat' split at hQ) <;> first | (exfalso; omega) | exact hQ _ ⟨by simp only [List.length_set]; exact s1, fun j q51 q52 q => by (repeat rw [List.getElem?_set_ne (by omega)]); exact s2 j q51 q52 q, (gs_eq (gs_l (gs_l (gs_l (gs_l (gs_lt s51)))))), (gs_ne (by decide) (gs_ne (by decide) (gs_ne (by decide) (gs_ne (by decide) (gs_ne (by decide) s52))))), (gs_ne (by decide) (gs_ne (by decide) (gs_ne (by decide) (gs_ne (by decide) (gs_ne (by decide) s60))))), (gs_ne (by decide) (gs_ne (by decide) (gs_eq (gs_l (gs_l (gs_lt s61)))))), (gs_ne (by decide) (gs_ne (by decide) (gs_ne (by decide) (gs_ne (by decide) (gs_ne (by decide) s62))))), (gs_ne (by decide) (gs_ne (by decide) (gs_ne (by decide) (gs_ne (by decide) (gs_ne (by decide) s63)))))⟩)
        · refine wp_aload_n dX7_judges_143 rfl ?_
          refine wp_getf dX7_judges_144 fX7_60 (gs_eq (gs_l (gs_l (gs_l (gs_l (gs_lt s51)))))) rfl ?_
          refine wp_aload_n dX7_judges_147 rfl ?_
          refine wp_getf dX7_judges_148 fX7_9 (gs_eq (gs_l (gs_l (gs_l (gs_l (gs_lt s51)))))) rfl ?_
          refine wp_iload dX7_judges_151 rfl ?_
          refine wp_iconst dX7_judges_153 ?_
          refine wp_iadd dX7_judges_154 ?_
          refine wp_iav (v := g (eA 0 key + 1)) dX7_judges_155 (gs_ne (by decide) (gs_ne (by decide) (gs_ne (by decide) (gs_ne (by decide) (gs_ne (by decide) s52))))) (by decide) (by omega) rfl ?_
          refine wp_iconst dX7_judges_156 ?_
          refine wp_zsv dX7_judges_157 (gs_ne (by decide) (gs_ne (by decide) (gs_ne (by decide) (gs_ne (by decide) (gs_ne (by decide) s63))))) (by decide) (by omega) (Or.inr rfl) ?_
          refine wp_aload_n dX7_judges_158 rfl ?_
          refine wp_dup dX7_judges_159 rfl ?_
          refine wp_getf dX7_judges_160 fX7_275 (gs_ne (by decide) (gs_eq (gs_l (gs_l (gs_l (gs_l (gs_lt s51))))))) rfl ?_
          refine wp_iconst dX7_judges_163 ?_
          refine wp_iadd dX7_judges_164 ?_
          refine wp_putv (fs' := mF dn km ln at_ ft n (t + 1) (s + 1) (mnI l L) (mxI m L) (un + 1) ik) dX7_judges_165 (pX7_275 rfl) (gs_ne (by decide) (gs_eq (gs_l (gs_l (gs_l (gs_l (gs_lt s51))))))) (Nat.le_of_ble_eq_true rfl) (fitF_int _) rfl ?_
          exact wp_ret dX7_judges_168 rfl (by
              (repeat' split at hQ) <;> first | (exfalso; omega) | exact hQ _ ⟨by simp only [List.length_set]; exact s1, fun j q51 q52 q => by (repeat rw [List.getElem?_set_ne (by omega)]); exact s2 j q51 q52 q, (gs_eq (gs_l (gs_l (gs_l (gs_l (gs_l (gs_l (gs_lt s51)))))))), (gs_ne (by decide) (gs_ne (by decide) (gs_ne (by decide) (gs_ne (by decide) (gs_ne (by decide) (gs_ne (by decide) (gs_ne (by decide) s52))))))), (gs_ne (by decide) (gs_ne (by decide) (gs_ne (by decide) (gs_ne (by decide) (gs_ne (by decide) (gs_ne (by decide) (gs_ne (by decide) s60))))))), (gs_ne (by decide) (gs_ne (by decide) (gs_ne (by decide) (gs_ne (by decide) (gs_eq (gs_l (gs_l (gs_lt s61)))))))), (gs_ne (by decide) (gs_ne (by decide) (gs_ne (by decide) (gs_ne (by decide) (gs_ne (by decide) (gs_ne (by decide) (gs_ne (by decide) s62))))))), (gs_ne (by decide) (gs_eq (gs_l (gs_l (gs_l (gs_l (gs_l (gs_lt s63))))))))⟩)
end JU_
