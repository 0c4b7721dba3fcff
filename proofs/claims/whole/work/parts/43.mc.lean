/-! the reference: fills, fill, write, apply, cold -/
section MC
variable {X : XS} {h : AH} {Q : Option AV → AH → Prop} {p q : Nat} {g : Int → Int} {B : Int}
theorem eA_inj {a j k : Int} (h : eA a j = eA a k) : j = k := by unfold eA at h; omega
theorem entL_acc (g : Int → Int) (a : Int) : ∀ (m : Nat) (k n : Int), entL' g a m k n = n + entL' g a m k 0 := by
  intro m
  induction m with
  | zero => intro k n; simp [entL']
  | succ m ih =>
    intro k n
    simp only [entL']
    split
    · rw [ih (k + 1) (n + 1), ih (k + 1) (0 + 1)]; omega
    · rw [ih (k + 1) (n + 0), ih (k + 1) (0 + 0)]; omega
theorem entL_cong {g g' : Int → Int} {a : Int} : ∀ (m : Nat) (k n : Int), (∀ j, k ≤ j → j < k + m → (g 0 < g (eA a j) ↔ g' 0 < g' (eA a j))) → entL' g a m k n = entL' g' a m k n := by
  intro m
  induction m with
  | zero => intro k n _; rfl
  | succ m ih =>
    intro k n H
    simp only [entL']
    have e := H k (Int.le_refl k) (by omega)
    by_cases c : g 0 < g (eA a k)
    · rw [if_pos c, if_pos (e.mp c)]
      exact ih _ _ fun j h1 h2 => H j (by omega) (by omega)
    · rw [if_neg c, if_neg (fun z => c (e.mpr z))]
      exact ih _ _ fun j h1 h2 => H j (by omega) (by omega)
theorem entL_b (g : Int → Int) (a : Int) : ∀ (m : Nat) (k n : Int), n ≤ entL' g a m k n ∧ entL' g a m k n ≤ n + m := by
  intro m
  induction m with
  | zero => intro k n; simp [entL']
  | succ m ih =>
    intro k n
    simp only [entL']
    split
    · have := ih (k + 1) (n + 1); omega
    · have := ih (k + 1) (n + 0); omega
theorem entN_b (g : Int → Int) (a : Int) : 0 ≤ entN g a ∧ entN g a ≤ 10 := by have := entL_b g a 10 0 0; unfold entN; omega
theorem entL_del {g g' : Int → Int} {a x : Int} (hx : g 0 < g (eA a x)) (hx' : ¬ g' 0 < g' (eA a x)) : ∀ (m : Nat) (k n : Int), k ≤ x → x < k + m → (∀ j, k ≤ j → j < k + m → j ≠ x → (g 0 < g (eA a j) ↔ g' 0 < g' (eA a j))) → entL' g a m k n = entL' g' a m k n + 1 := by
  intro m
  induction m with
  | zero => intro k n h1 h2; omega
  | succ m ih =>
    intro k n h1 h2 H
    simp only [entL']
    by_cases e : k = x
    · subst e
      rw [if_pos hx, if_neg hx', entL_cong (g := g) (g' := g') m (k + 1) (n + 1) (fun j q1 q2 => H j (by omega) (by omega) (by omega)), entL_acc g' a m (k + 1) (n + 1), entL_acc g' a m (k + 1) (n + 0)]
      omega
    · have e2 := H k (Int.le_refl k) (by omega) e
      by_cases c : g 0 < g (eA a k)
      · rw [if_pos c, if_pos (e2.mp c)]
        exact ih _ _ (by omega) (by omega) fun j q1 q2 q3 => H j (by omega) (by omega) q3
      · rw [if_neg c, if_neg (fun z => c (e2.mpr z))]
        exact ih _ _ (by omega) (by omega) fun j q1 q2 q3 => H j (by omega) (by omega) q3
theorem leastL_in {g : Int → Int} {a y : Int} : ∀ (m : Nat) (k z : Int), leastL g a y m k z = z ∨ (k ≤ leastL g a y m k z ∧ leastL g a y m k z < k + m ∧ g 0 < g (eA a (leastL g a y m k z))) := by
  intro m
  induction m with
  | zero => intro k z; exact Or.inl rfl
  | succ m ih =>
    intro k z
    simp only [leastL]
    split
    · rename_i c
      split
      · rcases ih (k + 1) k with e | e
        · rw [e]; exact Or.inr ⟨by omega, by omega, c⟩
        · exact Or.inr ⟨by omega, by omega, e.2.2⟩
      · split
        · rcases ih (k + 1) k with e | e
          · rw [e]; exact Or.inr ⟨by omega, by omega, c⟩
          · exact Or.inr ⟨by omega, by omega, e.2.2⟩
        · rcases ih (k + 1) z with e | e
          · exact Or.inl e
          · exact Or.inr ⟨by omega, by omega, e.2.2⟩
    · rcases ih (k + 1) z with e | e
      · exact Or.inl e
      · exact Or.inr ⟨by omega, by omega, e.2.2⟩
theorem leastL_ne {g : Int → Int} {a y : Int} : ∀ (m : Nat) (k : Int), 0 ≤ k → 1 ≤ entL' g a m k 0 → leastL g a y m k (-1) ≠ -1 := by
  intro m
  induction m with
  | zero => intro k h0 h; simp [entL'] at h
  | succ m ih =>
    intro k h0 h
    simp only [entL', leastL] at h ⊢
    by_cases c : g 0 < g (eA a k)
    · rw [if_pos c, if_pos trivial]
      rcases leastL_in (g := g) (a := a) (y := y) m (k + 1) k with e | e <;> omega
    · rw [if_neg c] at h ⊢
      exact ih (k + 1) (by omega) h
theorem leastO_ok {g : Int → Int} {a t : Int} (h : 1 ≤ entN g a) : (0 ≤ leastO g a t ∧ leastO g a t < 10) ∧ g 0 < g (eA a (leastO g a t)) := by
  unfold leastO entN at *
  have h1 := leastL_ne (y := polB t) 10 0 (Int.le_refl 0) h
  rcases leastL_in (g := g) (a := a) (y := polB t) 10 0 (-1) with e | e
  · exact absurd e h1
  · exact ⟨⟨e.1, by have := e.2.1; omega⟩, e.2.2⟩
theorem entN_del {g : Int → Int} {a x v : Int} (ha : 0 ≤ a ∧ a < 6) (hx : 0 ≤ x ∧ x < 10) (h0 : 0 ≤ g 0) (hg : g 0 < g (eA a x)) : entN g a = entN (ud (ud g (eA a x) 0) 23 v) a + 1 := by
  unfold entN
  have hb := eA_b ha hx
  refine entL_del (x := x) hg ?_ 10 0 0 (by omega) (by omega) fun j h1 h2 h3 => ?_
  · rw [ud_ne (by omega), ud_ne (by omega), ud_ne (by omega), ud_eq]; omega
  · have hb2 := eA_b (k := j) ha ⟨by omega, by omega⟩
    rw [ud_ne (by omega), ud_ne (by omega), ud_ne (f := ud g (eA a x) 0) (by omega), ud_ne (f := g) (k := eA a j) (fun q => h3 (eA_inj q))]
def evL (a : Int) : Nat → (Int → Int) → (Int → Int)
  | 0, g => g
  | m + 1, g => if entN g a < g 3 then g else evL a m (ud (ud g (eA a (leastO g a (g 8))) 0) 23 (g 23 + 1))
def finF (g : Int → Int) (a k v w : Int) : Int → Int := ud (ud (ud (ud (ud (ud g (eA a k) (g 0 + g 4)) (eA a k + 1) v) (eA a k + 2) w) (eA a k + 3) (g 0)) (eA a k + 4) (g 0)) (eA a k + 5) 0
def spFills (g : Int → Int) (a k v w : Int) : Int → Int := finF (evL a 10 (ud (ud (ud g (lA a k) 0) (oA a k) 0) (eA a k) 0)) a k v w
set_option maxHeartbeats 4000000 in
theorem lp_fills {a k v w : Int} {b : Nat × Nat} (hS : SA 7 p q h) (ha : 0 ≤ a ∧ a < 6) (hk : 0 ≤ k ∧ k < 10) : ∀ (m : Nat) (g : Int → Int) (B : Int), entN g a ≤ m → Bd B g → B + m ≤ 1000000000 → 0 ≤ g 0 → 1 ≤ g 3 → Q none (h.set q (oI 1014 (finF (evL a m g) a k v w))) → Wp X kX7_fills 33 [some (vR p), some (vI a), some (vI k), some (vI v), some (vI w), none] [] (h.set q (oI 1014 g)) b Q := by
  intro m
  induction m with
  | zero =>
    intro g B h1 hB hBB0 h0 h3 hQ
    have hBB : B ≤ 1000000000 := by omega
    have hR := hB.r hBB
    have hb2 := eA_b ha hk
    have hn := entN_b g a
    refine wp_aload_n dX7_fills_33 rfl ?_
    refine wp_iload_n dX7_fills_34 rfl ?_
    refine sa_i1 hS dX7_fills_35 VX7_entriesIn lX7_131 (rq0 rfl rfl) (Nat.le_of_ble_eq_true rfl) (C_entriesIn hS hR ha ?_)
    dsimp only [pushR]
    refine wp_aload_n dX7_fills_38 rfl ?_
    refine sa_get hS dX7_fills_39 fX7_9 ?_
    refine wp_iconst dX7_fills_42 ?_
    refine sa_ld (v := g 3) hS dX7_fills_43 (by decide) (by omega) rfl ?_
    refine wp_icmp_lt 83 dX7_fills_44 rfl (by first | assumption | exact hR _ | exact bI_r _ | exact r32_1 hB hBB _ | exact r32_2 hB hBB _ _ | (unfold r32; omega)) (by first | assumption | exact hR _ | exact bI_r _ | exact r32_1 hB hBB _ | exact r32_2 hB hBB _ _ | (unfold r32; omega)) (fun c44 => ?_) (fun c44 => ?_)
    · refine wp_iload_n dX7_fills_83 rfl ?_
      refine wp_iload_n dX7_fills_84 rfl ?_
      refine wp_is2 dX7_fills_85 SX7_entryAt lX7_112 (rq0 rfl rfl) (Nat.le_of_ble_eq_true rfl) (C_entryAt ?_)
      dsimp only [pushR]
      refine wp_istore (L' := [some (vR p), some (vI a), some (vI k), some (vI v), some (vI w), some (vI (eA a k))]) dX7_fills_88 (by decide) rfl ?_
      refine wp_aload_n dX7_fills_90 rfl ?_
      refine sa_get hS dX7_fills_91 fX7_9 ?_
      refine wp_iload dX7_fills_94 rfl ?_
      refine wp_aload_n dX7_fills_96 rfl ?_
      refine sa_get hS dX7_fills_97 fX7_9 ?_
      refine wp_iconst dX7_fills_100 ?_
      refine sa_ld (v := g 0) hS dX7_fills_101 (by decide) (by omega) rfl ?_
      refine wp_aload_n dX7_fills_102 rfl ?_
      refine sa_get hS dX7_fills_103 fX7_9 ?_
      refine wp_iconst dX7_fills_106 ?_
      refine sa_ld (v := g 4) hS dX7_fills_107 (by decide) (by omega) rfl ?_
      refine wp_iadd dX7_fills_108 ?_
      refine sa_st hS dX7_fills_109 (by decide) (by omega) ?_
      refine wp_aload_n dX7_fills_110 rfl ?_
      refine sa_get hS dX7_fills_111 fX7_9 ?_
      refine wp_iload dX7_fills_114 rfl ?_
      refine wp_iconst dX7_fills_116 ?_
      refine wp_iadd dX7_fills_117 ?_
      refine wp_iload_n dX7_fills_118 rfl ?_
      refine sa_st hS dX7_fills_119 (by decide) (by omega) ?_
      refine wp_aload_n dX7_fills_120 rfl ?_
      refine sa_get hS dX7_fills_121 fX7_9 ?_
      refine wp_iload dX7_fills_124 rfl ?_
      refine wp_iconst dX7_fills_126 ?_
      refine wp_iadd dX7_fills_127 ?_
      refine wp_iload dX7_fills_128 rfl ?_
      refine sa_st hS dX7_fills_130 (by decide) (by omega) ?_
      refine wp_aload_n dX7_fills_131 rfl ?_
      refine sa_get hS dX7_fills_132 fX7_9 ?_
      refine wp_iload dX7_fills_135 rfl ?_
      refine wp_iconst dX7_fills_137 ?_
      refine wp_iadd dX7_fills_138 ?_
      refine wp_aload_n dX7_fills_139 rfl ?_
      refine sa_get hS dX7_fills_140 fX7_9 ?_
      refine wp_iconst dX7_fills_143 ?_
      refine sa_ld (v := g 0) hS dX7_fills_144 (by decide) (by omega) (by rw [ud_ne (by omega), ud_ne (by omega), ud_ne (by omega)]) ?_
      refine sa_st hS dX7_fills_145 (by decide) (by omega) ?_
      refine wp_aload_n dX7_fills_146 rfl ?_
      refine sa_get hS dX7_fills_147 fX7_9 ?_
      refine wp_iload dX7_fills_150 rfl ?_
      refine wp_iconst dX7_fills_152 ?_
      refine wp_iadd dX7_fills_153 ?_
      refine wp_aload_n dX7_fills_154 rfl ?_
      refine sa_get hS dX7_fills_155 fX7_9 ?_
      refine wp_iconst dX7_fills_158 ?_
      refine sa_ld (v := g 0) hS dX7_fills_159 (by decide) (by omega) (by rw [ud_ne (by omega), ud_ne (by omega), ud_ne (by omega), ud_ne (by omega)]) ?_
      refine sa_st hS dX7_fills_160 (by decide) (by omega) ?_
      refine wp_aload_n dX7_fills_161 rfl ?_
      refine sa_get hS dX7_fills_162 fX7_9 ?_
      refine wp_iload dX7_fills_165 rfl ?_
      refine wp_iconst dX7_fills_167 ?_
      refine wp_iadd dX7_fills_168 ?_
      refine wp_iconst dX7_fills_169 ?_
      refine sa_st hS dX7_fills_170 (by decide) (by omega) ?_
      exact wp_ret dX7_fills_171 rfl hQ
    · omega
  | succ m ih =>
    intro g B h1 hB hBB0 h0 h3 hQ
    have hBB : B ≤ 1000000000 := by omega
    have hR := hB.r hBB
    have hb2 := eA_b ha hk
    have hn := entN_b g a
    have hl : ¬ entN g a < g 3 → (0 ≤ leastO g a (g 8) ∧ leastO g a (g 8) < 10) ∧ g 0 < g (eA a (leastO g a (g 8))) := fun q => leastO_ok (by omega)
    refine wp_aload_n dX7_fills_33 rfl ?_
    refine wp_iload_n dX7_fills_34 rfl ?_
    refine sa_i1 hS dX7_fills_35 VX7_entriesIn lX7_131 (rq0 rfl rfl) (Nat.le_of_ble_eq_true rfl) (C_entriesIn hS hR ha ?_)
    dsimp only [pushR]
    refine wp_aload_n dX7_fills_38 rfl ?_
    refine sa_get hS dX7_fills_39 fX7_9 ?_
    refine wp_iconst dX7_fills_42 ?_
    refine sa_ld (v := g 3) hS dX7_fills_43 (by decide) (by omega) rfl ?_
    refine wp_icmp_lt 83 dX7_fills_44 rfl (by first | assumption | exact hR _ | exact bI_r _ | exact r32_1 hB hBB _ | exact r32_2 hB hBB _ _ | (unfold r32; omega)) (by first | assumption | exact hR _ | exact bI_r _ | exact r32_1 hB hBB _ | exact r32_2 hB hBB _ _ | (unfold r32; omega)) (fun c44 => ?_) (fun c44 => ?_)
    · refine wp_iload_n dX7_fills_83 rfl ?_
      refine wp_iload_n dX7_fills_84 rfl ?_
      refine wp_is2 dX7_fills_85 SX7_entryAt lX7_112 (rq0 rfl rfl) (Nat.le_of_ble_eq_true rfl) (C_entryAt ?_)
      dsimp only [pushR]
      refine wp_istore (L' := [some (vR p), some (vI a), some (vI k), some (vI v), some (vI w), some (vI (eA a k))]) dX7_fills_88 (by decide) rfl ?_
      refine wp_aload_n dX7_fills_90 rfl ?_
      refine sa_get hS dX7_fills_91 fX7_9 ?_
      refine wp_iload dX7_fills_94 rfl ?_
      refine wp_aload_n dX7_fills_96 rfl ?_
      refine sa_get hS dX7_fills_97 fX7_9 ?_
      refine wp_iconst dX7_fills_100 ?_
      refine sa_ld (v := g 0) hS dX7_fills_101 (by decide) (by omega) rfl ?_
      refine wp_aload_n dX7_fills_102 rfl ?_
      refine sa_get hS dX7_fills_103 fX7_9 ?_
      refine wp_iconst dX7_fills_106 ?_
      refine sa_ld (v := g 4) hS dX7_fills_107 (by decide) (by omega) rfl ?_
      refine wp_iadd dX7_fills_108 ?_
      refine sa_st hS dX7_fills_109 (by decide) (by omega) ?_
      refine wp_aload_n dX7_fills_110 rfl ?_
      refine sa_get hS dX7_fills_111 fX7_9 ?_
      refine wp_iload dX7_fills_114 rfl ?_
      refine wp_iconst dX7_fills_116 ?_
      refine wp_iadd dX7_fills_117 ?_
      refine wp_iload_n dX7_fills_118 rfl ?_
      refine sa_st hS dX7_fills_119 (by decide) (by omega) ?_
      refine wp_aload_n dX7_fills_120 rfl ?_
      refine sa_get hS dX7_fills_121 fX7_9 ?_
      refine wp_iload dX7_fills_124 rfl ?_
      refine wp_iconst dX7_fills_126 ?_
      refine wp_iadd dX7_fills_127 ?_
      refine wp_iload dX7_fills_128 rfl ?_
      refine sa_st hS dX7_fills_130 (by decide) (by omega) ?_
      refine wp_aload_n dX7_fills_131 rfl ?_
      refine sa_get hS dX7_fills_132 fX7_9 ?_
      refine wp_iload dX7_fills_135 rfl ?_
      refine wp_iconst dX7_fills_137 ?_
      refine wp_iadd dX7_fills_138 ?_
      refine wp_aload_n dX7_fills_139 rfl ?_
      refine sa_get hS dX7_fills_140 fX7_9 ?_
      refine wp_iconst dX7_fills_143 ?_
      refine sa_ld (v := g 0) hS dX7_fills_144 (by decide) (by omega) (by rw [ud_ne (by omega), ud_ne (by omega), ud_ne (by omega)]) ?_
      refine sa_st hS dX7_fills_145 (by decide) (by omega) ?_
      refine wp_aload_n dX7_fills_146 rfl ?_
      refine sa_get hS dX7_fills_147 fX7_9 ?_
      refine wp_iload dX7_fills_150 rfl ?_
      refine wp_iconst dX7_fills_152 ?_
      refine wp_iadd dX7_fills_153 ?_
      refine wp_aload_n dX7_fills_154 rfl ?_
      refine sa_get hS dX7_fills_155 fX7_9 ?_
      refine wp_iconst dX7_fills_158 ?_
      refine sa_ld (v := g 0) hS dX7_fills_159 (by decide) (by omega) (by rw [ud_ne (by omega), ud_ne (by omega), ud_ne (by omega), ud_ne (by omega)]) ?_
      refine sa_st hS dX7_fills_160 (by decide) (by omega) ?_
      refine wp_aload_n dX7_fills_161 rfl ?_
      refine sa_get hS dX7_fills_162 fX7_9 ?_
      refine wp_iload dX7_fills_165 rfl ?_
      refine wp_iconst dX7_fills_167 ?_
      refine wp_iadd dX7_fills_168 ?_
      refine wp_iconst dX7_fills_169 ?_
      refine sa_st hS dX7_fills_170 (by decide) (by omega) ?_
      exact wp_ret dX7_fills_171 rfl (by simp only [evL] at hQ; rw [if_pos (by omega)] at hQ; exact hQ)
    · obtain ⟨hx, hy⟩ := hl c44
      have hb3 := eA_b ha hx
      refine wp_aload_n dX7_fills_47 rfl ?_
      refine sa_get hS dX7_fills_48 fX7_9 ?_
      refine wp_iload_n dX7_fills_51 rfl ?_
      refine wp_aload_n dX7_fills_52 rfl ?_
      refine wp_iload_n dX7_fills_53 rfl ?_
      refine wp_aload_n dX7_fills_54 rfl ?_
      refine sa_get hS dX7_fills_55 fX7_9 ?_
      refine wp_bipush dX7_fills_58 rfl ?_
      refine sa_ld (v := g 8) hS dX7_fills_60 (by decide) (by omega) rfl ?_
      refine sa_i2 hS dX7_fills_61 VX7_leastIn lX7_134 (rq0 rfl rfl) (Nat.le_of_ble_eq_true rfl) (C_leastIn hS hR ha (by first | assumption | exact hR _ | exact bI_r _ | exact r32_1 hB hBB _ | exact r32_2 hB hBB _ _ | (unfold r32; omega)) ?_)
      dsimp only [pushR]
      refine wp_is2 dX7_fills_64 SX7_entryAt lX7_112 (rq0 rfl rfl) (Nat.le_of_ble_eq_true rfl) (C_entryAt ?_)
      dsimp only [pushR]
      refine wp_iconst dX7_fills_67 ?_
      refine sa_st hS dX7_fills_68 (by decide) (by omega) ?_
      refine wp_aload_n dX7_fills_69 rfl ?_
      refine sa_get hS dX7_fills_70 fX7_9 ?_
      refine wp_bipush dX7_fills_73 rfl ?_
      refine wp_dup2 dX7_fills_75 rfl rfl ?_
      refine sa_ld (v := g 23) hS dX7_fills_76 (by decide) (by omega) (by rw [ud_ne (by omega)]) ?_
      refine wp_iconst dX7_fills_77 ?_
      refine wp_iadd dX7_fills_78 ?_
      refine sa_st hS dX7_fills_79 (by decide) (by omega) ?_
      refine wp_goto 33 dX7_fills_80 rfl ?_
      exact ih _ (B + 1) (by have := entN_del (v := g 23 + 1) ha hx h0 hy; omega) (((hB.up (by omega)).wr (by have := hB 0; omega)).wr (by have := hB 23; omega)) (by omega) (by rw [ud_ne (by omega), ud_ne (by omega)]; exact h0) (by rw [ud_ne (by omega), ud_ne (by omega)]; exact h3) (by simp only [evL] at hQ; rw [if_neg c44] at hQ; exact hQ)
set_option maxHeartbeats 2000000 in
theorem C_fills {a k v w : Int} (hS : SA 7 p q h) (hB : Bd B g) (hBB : B + 10 ≤ 1000000000) (ha : 0 ≤ a ∧ a < 6) (hk : 0 ≤ k ∧ k < 10) (hB0 : 0 ≤ B) (h0 : 0 ≤ g 0) (h3 : 1 ≤ g 3) (hQ : Q none (h.set q (oI 1014 (spFills g a k v w)))) : Cl X kX7_fills [vR p, vI a, vI k, vI v, vI w] (h.set q (oI 1014 g)) Q := by
  refine cl_of rfl (Nat.le_of_ble_eq_true rfl) rfl ?_
  have hb2 := eA_b ha hk
  have hb3 := oA_b ha hk
  have hb4 := lA_b ha hk
  refine wp_aload_n dX7_fills_0 rfl ?_
  refine sa_get hS dX7_fills_1 fX7_9 ?_
  refine wp_iload_n dX7_fills_4 rfl ?_
  refine wp_iload_n dX7_fills_5 rfl ?_
  refine wp_is2 dX7_fills_6 SX7_leaseAt lX7_119 (rq0 rfl rfl) (Nat.le_of_ble_eq_true rfl) (C_leaseAt ?_)
  dsimp only [pushR]
  refine wp_iconst dX7_fills_9 ?_
  refine sa_st hS dX7_fills_10 (by decide) (by omega) ?_
  refine wp_aload_n dX7_fills_11 rfl ?_
  refine sa_get hS dX7_fills_12 fX7_9 ?_
  refine wp_iload_n dX7_fills_15 rfl ?_
  refine wp_iload_n dX7_fills_16 rfl ?_
  refine wp_is2 dX7_fills_17 SX7_oldAt lX7_122 (rq0 rfl rfl) (Nat.le_of_ble_eq_true rfl) (C_oldAt ?_)
  dsimp only [pushR]
  refine wp_iconst dX7_fills_20 ?_
  refine sa_st hS dX7_fills_21 (by decide) (by omega) ?_
  refine wp_aload_n dX7_fills_22 rfl ?_
  refine sa_get hS dX7_fills_23 fX7_9 ?_
  refine wp_iload_n dX7_fills_26 rfl ?_
  refine wp_iload_n dX7_fills_27 rfl ?_
  refine wp_is2 dX7_fills_28 SX7_entryAt lX7_112 (rq0 rfl rfl) (Nat.le_of_ble_eq_true rfl) (C_entryAt ?_)
  dsimp only [pushR]
  refine wp_iconst dX7_fills_31 ?_
  refine sa_st hS dX7_fills_32 (by decide) (by omega) ?_
  exact lp_fills hS ha hk 10 _ B (by have := entN_b (ud (ud (ud g (lA a k) 0) (oA a k) 0) (eA a k) 0) a; omega) (((hB.wr (by omega)).wr (by omega)).wr (by omega)) hBB (by rw [ud_ne (by omega), ud_ne (by omega), ud_ne (by omega)]; exact h0) (by rw [ud_ne (by omega), ud_ne (by omega), ud_ne (by omega)]; exact h3) hQ
def spFill (g : Int → Int) (c : Int) : Int × (Int → Int) :=
  let k := g (hA c + 1)
  let a := g (hA c + 0)
  let g1 := ud g (hA c + 1) (-1)
  if k = -1 ∨ g (hA c + 3) = 0 then (-5, g)
  else if (g 9 = 1 ∧ (¬ g 0 < g (lA a k) ∨ g (lA a k + 2) ≠ g (hA c + 2))) ∨ g (hA c + 6) = 1 ∧ g 0 < g (dA a k) then (0, ud g1 21 (g 21 + 1))
  else
    let g2 := spFills g1 a k (g (hA c + 4)) (g (hA c + 5))
    (1, ud g2 20 (g2 20 + 1))
set_option maxHeartbeats 2000000 in
theorem C_doFill {c : Int} (hS : SA 7 p q h) (hB : Bd B g) (hBB : B + 10 ≤ 1000000000) (hB0 : 0 ≤ B) (hc : 0 ≤ c ∧ c < 6) (hk : -1 ≤ g (hA c + 1) ∧ g (hA c + 1) < 10) (hG : 0 ≤ g (hA c + 0) ∧ g (hA c + 0) < 6) (h0 : 0 ≤ g 0) (h3 : 1 ≤ g 3) (hQ : Q (some (vI (spFill g c).1)) (h.set q (oI 1014 (spFill g c).2))) : Cl X kX7_doFill [vR p, vI c] (h.set q (oI 1014 g)) Q := by
  refine cl_of rfl (Nat.le_of_ble_eq_true rfl) rfl ?_
  have hR := hB.r (by omega)
  have hBB2 : B ≤ 1000000000 := by omega
  have hb1 := hA_b hc
  rcases Decidable.em (g (hA c + 1) = -1) with hk1 | hk1
  · have e : spFill g c = (-5, g) := by simp only [spFill]; rw [if_pos (Or.inl hk1)]
    rw [e] at hQ
    refine wp_iload_n dX7_doFill_0 rfl ?_
    refine wp_is1 dX7_doFill_1 SX7_hand lX7_82 (rq0 rfl rfl) (Nat.le_of_ble_eq_true rfl) (C_hand ?_)
    dsimp only [pushR]
    refine wp_istore_n (L' := [some (vR p), some (vI c), some (vI (hA c)), none, none, none, none]) dX7_doFill_4 (by decide) rfl ?_
    refine wp_aload_n dX7_doFill_5 rfl ?_
    refine sa_get hS dX7_doFill_6 fX7_9 ?_
    refine wp_iload_n dX7_doFill_9 rfl ?_
    refine wp_iconst dX7_doFill_10 ?_
    refine wp_iadd dX7_doFill_11 ?_
    refine sa_ld (v := g (hA c + 1)) hS dX7_doFill_12 (by decide) (by omega) rfl ?_
    refine wp_istore_n (L' := [some (vR p), some (vI c), some (vI (hA c)), some (vI (g (hA c + 1))), none, none, none]) dX7_doFill_13 (by decide) rfl ?_
    refine wp_iload_n dX7_doFill_14 rfl ?_
    refine wp_iconst dX7_doFill_15 ?_
    refine wp_icmp_eq 30 dX7_doFill_16 rfl (by first | assumption | exact hR _ | exact bI_r _ | exact r32_1 hB hBB _ | exact r32_2 hB hBB _ _ | (unfold r32; omega)) ⟨by omega, by omega⟩ (fun c16 => ?_) (fun c16 => ?_)
    · refine wp_bipush dX7_doFill_30 rfl ?_
      exact wp_iret dX7_doFill_32 rfl hQ
    · exact absurd hk1 c16
  have hk : 0 ≤ g (hA c + 1) ∧ g (hA c + 1) < 10 := ⟨by omega, hk.2⟩
  have hb2 := lA_b hG hk
  have hb3 := dA_b hG hk
  refine wp_iload_n dX7_doFill_0 rfl ?_
  refine wp_is1 dX7_doFill_1 SX7_hand lX7_82 (rq0 rfl rfl) (Nat.le_of_ble_eq_true rfl) (C_hand ?_)
  dsimp only [pushR]
  refine wp_istore_n (L' := [some (vR p), some (vI c), some (vI (hA c)), none, none, none, none]) dX7_doFill_4 (by decide) rfl ?_
  refine wp_aload_n dX7_doFill_5 rfl ?_
  refine sa_get hS dX7_doFill_6 fX7_9 ?_
  refine wp_iload_n dX7_doFill_9 rfl ?_
  refine wp_iconst dX7_doFill_10 ?_
  refine wp_iadd dX7_doFill_11 ?_
  refine sa_ld (v := g (hA c + 1)) hS dX7_doFill_12 (by decide) (by omega) rfl ?_
  refine wp_istore_n (L' := [some (vR p), some (vI c), some (vI (hA c)), some (vI (g (hA c + 1))), none, none, none]) dX7_doFill_13 (by decide) rfl ?_
  refine wp_iload_n dX7_doFill_14 rfl ?_
  refine wp_iconst dX7_doFill_15 ?_
  refine wp_icmp_eq 30 dX7_doFill_16 rfl (by first | assumption | exact hR _ | exact bI_r _ | exact r32_1 hB hBB _ | exact r32_2 hB hBB _ _ | (unfold r32; omega)) ⟨by omega, by omega⟩ (fun c16 => ?_) (fun c16 => ?_)
  · refine wp_bipush dX7_doFill_30 rfl ?_
    exact wp_iret dX7_doFill_32 rfl (by simp only [spFill] at hQ; (repeat' split at hQ) <;> first | (exfalso; omega) | exact hQ)
  · refine wp_aload_n dX7_doFill_19 rfl ?_
    refine sa_get hS dX7_doFill_20 fX7_9 ?_
    refine wp_iload_n dX7_doFill_23 rfl ?_
    refine wp_iconst dX7_doFill_24 ?_
    refine wp_iadd dX7_doFill_25 ?_
    refine sa_ld (v := g (hA c + 3)) hS dX7_doFill_26 (by decide) (by omega) rfl ?_
    refine wp_if_ne 33 dX7_doFill_27 rfl (by first | assumption | exact hR _ | exact bI_r _ | exact r32_1 hB hBB _ | exact r32_2 hB hBB _ _ | (unfold r32; omega)) (fun c27 => ?_) (fun c27 => ?_)
    · refine wp_aload_n dX7_doFill_33 rfl ?_
      refine wp_iload_n dX7_doFill_34 rfl ?_
      refine sa_i1 hS dX7_doFill_35 VX7_groupOf lX7_109 (rq0 rfl rfl) (Nat.le_of_ble_eq_true rfl) (C_groupOf (v := g (hA c + 0)) hS (by omega) rfl ?_)
      dsimp only [pushR]
      refine wp_istore (L' := [some (vR p), some (vI c), some (vI (hA c)), some (vI (g (hA c + 1))), some (vI (g (hA c + 0))), none, none]) dX7_doFill_38 (by decide) rfl ?_
      refine wp_iload dX7_doFill_40 rfl ?_
      refine wp_iload_n dX7_doFill_42 rfl ?_
      refine wp_is2 dX7_doFill_43 SX7_leaseAt lX7_119 (rq0 rfl rfl) (Nat.le_of_ble_eq_true rfl) (C_leaseAt ?_)
      dsimp only [pushR]
      refine wp_istore (L' := [some (vR p), some (vI c), some (vI (hA c)), some (vI (g (hA c + 1))), some (vI (g (hA c + 0))), some (vI (lA (g (hA c + 0)) (g (hA c + 1)))), none]) dX7_doFill_46 (by decide) rfl ?_
      refine wp_aload_n dX7_doFill_48 rfl ?_
      refine sa_get hS dX7_doFill_49 fX7_9 ?_
      refine wp_iload_n dX7_doFill_52 rfl ?_
      refine wp_iconst dX7_doFill_53 ?_
      refine wp_iadd dX7_doFill_54 ?_
      refine wp_iconst dX7_doFill_55 ?_
      refine sa_st hS dX7_doFill_56 (by decide) (by omega) ?_
      refine wp_aload_n dX7_doFill_57 rfl ?_
      refine sa_get hS dX7_doFill_58 fX7_9 ?_
      refine wp_bipush dX7_doFill_61 rfl ?_
      refine sa_ld (v := g 9) hS dX7_doFill_63 (by decide) (by omega) (by rw [ud_ne (by omega)]) ?_
      refine wp_iconst dX7_doFill_64 ?_
      refine wp_icmp_ne 101 dX7_doFill_65 rfl (by first | assumption | exact hR _ | exact bI_r _ | exact r32_1 hB hBB _ | exact r32_2 hB hBB _ _ | (unfold r32; omega)) ⟨by omega, by omega⟩ (fun c65 => ?_) (fun c65 => ?_)
      · refine wp_iconst dX7_doFill_101 ?_
        refine wp_istore (L' := [some (vR p), some (vI c), some (vI (hA c)), some (vI (g (hA c + 1))), some (vI (g (hA c + 0))), some (vI (lA (g (hA c + 0)) (g (hA c + 1)))), some (vI 0)]) dX7_doFill_102 (by decide) rfl ?_
        refine wp_iload dX7_doFill_104 rfl ?_
        refine wp_if_ne 135 dX7_doFill_106 rfl (by first | assumption | exact hR _ | exact bI_r _ | exact r32_1 hB hBB _ | exact r32_2 hB hBB _ _ | (unfold r32; omega)) (fun c106 => ?_) (fun c106 => ?_)
        · refine wp_aload_n dX7_doFill_135 rfl ?_
          refine sa_get hS dX7_doFill_136 fX7_9 ?_
          refine wp_bipush dX7_doFill_139 rfl ?_
          refine wp_dup2 dX7_doFill_141 rfl rfl ?_
          refine sa_ld (v := g 21) hS dX7_doFill_142 (by decide) (by omega) (by rw [ud_ne (by omega)]) ?_
          refine wp_iconst dX7_doFill_143 ?_
          refine wp_iadd dX7_doFill_144 ?_
          refine sa_st hS dX7_doFill_145 (by decide) (by omega) ?_
          refine wp_iconst dX7_doFill_146 ?_
          exact wp_iret dX7_doFill_147 rfl (by simp only [spFill] at hQ; (repeat' split at hQ) <;> first | (exfalso; omega) | exact hQ)
        · refine wp_aload_n dX7_doFill_109 rfl ?_
          refine sa_get hS dX7_doFill_110 fX7_9 ?_
          refine wp_iload_n dX7_doFill_113 rfl ?_
          refine wp_bipush dX7_doFill_114 rfl ?_
          refine wp_iadd dX7_doFill_116 ?_
          refine sa_ld (v := g (hA c + 6)) hS dX7_doFill_117 (by decide) (by omega) (by rw [ud_ne (by omega)]) ?_
          refine wp_iconst dX7_doFill_118 ?_
          refine wp_icmp_ne 148 dX7_doFill_119 rfl (by first | assumption | exact hR _ | exact bI_r _ | exact r32_1 hB hBB _ | exact r32_2 hB hBB _ _ | (unfold r32; omega)) ⟨by omega, by omega⟩ (fun c119 => ?_) (fun c119 => ?_)
          · refine wp_aload_n dX7_doFill_148 rfl ?_
            refine wp_iload dX7_doFill_149 rfl ?_
            refine wp_iload_n dX7_doFill_151 rfl ?_
            refine wp_aload_n dX7_doFill_152 rfl ?_
            refine sa_get hS dX7_doFill_153 fX7_9 ?_
            refine wp_iload_n dX7_doFill_156 rfl ?_
            refine wp_iconst dX7_doFill_157 ?_
            refine wp_iadd dX7_doFill_158 ?_
            refine sa_ld (v := g (hA c + 4)) hS dX7_doFill_159 (by decide) (by omega) (by rw [ud_ne (by omega)]) ?_
            refine wp_aload_n dX7_doFill_160 rfl ?_
            refine sa_get hS dX7_doFill_161 fX7_9 ?_
            refine wp_iload_n dX7_doFill_164 rfl ?_
            refine wp_iconst dX7_doFill_165 ?_
            refine wp_iadd dX7_doFill_166 ?_
            refine sa_ld (v := g (hA c + 5)) hS dX7_doFill_167 (by decide) (by omega) (by rw [ud_ne (by omega)]) ?_
            refine sa_i4 hS dX7_doFill_168 VX7_fills lX7_140 (rq0 rfl rfl) (Nat.le_of_ble_eq_true rfl) (C_fills hS (hB.wr (by omega)) hBB (by omega) (by omega) hB0 (by rw [ud_ne (by omega)]; exact h0) (by rw [ud_ne (by omega)]; exact h3) ?_)
            dsimp only [pushR]
            refine wp_aload_n dX7_doFill_171 rfl ?_
            refine sa_get hS dX7_doFill_172 fX7_9 ?_
            refine wp_bipush dX7_doFill_175 rfl ?_
            refine wp_dup2 dX7_doFill_177 rfl rfl ?_
            refine sa_ld (v := (spFills (ud g (hA c + 1) (-1)) (g (hA c + 0)) (g (hA c + 1)) (g (hA c + 4)) (g (hA c + 5))) 20) hS dX7_doFill_178 (by decide) (by omega) rfl ?_
            refine wp_iconst dX7_doFill_179 ?_
            refine wp_iadd dX7_doFill_180 ?_
            refine sa_st hS dX7_doFill_181 (by decide) (by omega) ?_
            refine wp_iconst dX7_doFill_182 ?_
            exact wp_iret dX7_doFill_183 rfl (by simp only [spFill] at hQ; (repeat' split at hQ) <;> first | (exfalso; omega) | exact hQ)
          · refine wp_aload_n dX7_doFill_122 rfl ?_
            refine wp_iload dX7_doFill_123 rfl ?_
            refine wp_iload_n dX7_doFill_125 rfl ?_
            refine wp_is2 dX7_doFill_126 SX7_holdAt lX7_137 (rq0 rfl rfl) (Nat.le_of_ble_eq_true rfl) (C_holdAt ?_)
            dsimp only [pushR]
            refine sa_i1 hS dX7_doFill_129 VX7_isThere lX7_115 (rq0 rfl rfl) (Nat.le_of_ble_eq_true rfl) (C_isThere (v0 := g 0) (v1 := g (dA (g (hA c + 0)) (g (hA c + 1)))) hS (by omega) (by rw [ud_ne (by omega)]) (by rw [ud_ne (by omega)]) (by first | assumption | exact hR _ | exact bI_r _ | exact r32_1 hB hBB _ | exact r32_2 hB hBB _ _ | (unfold r32; omega)) (by first | assumption | exact hR _ | exact bI_r _ | exact r32_1 hB hBB _ | exact r32_2 hB hBB _ _ | (unfold r32; omega)) ?_)
            dsimp only [pushR]
            refine wp_beq 148 dX7_doFill_132 rfl (fun c132 => ?_) (fun c132 => ?_)
            · refine wp_aload_n dX7_doFill_148 rfl ?_
              refine wp_iload dX7_doFill_149 rfl ?_
              refine wp_iload_n dX7_doFill_151 rfl ?_
              refine wp_aload_n dX7_doFill_152 rfl ?_
              refine sa_get hS dX7_doFill_153 fX7_9 ?_
              refine wp_iload_n dX7_doFill_156 rfl ?_
              refine wp_iconst dX7_doFill_157 ?_
              refine wp_iadd dX7_doFill_158 ?_
              refine sa_ld (v := g (hA c + 4)) hS dX7_doFill_159 (by decide) (by omega) (by rw [ud_ne (by omega)]) ?_
              refine wp_aload_n dX7_doFill_160 rfl ?_
              refine sa_get hS dX7_doFill_161 fX7_9 ?_
              refine wp_iload_n dX7_doFill_164 rfl ?_
              refine wp_iconst dX7_doFill_165 ?_
              refine wp_iadd dX7_doFill_166 ?_
              refine sa_ld (v := g (hA c + 5)) hS dX7_doFill_167 (by decide) (by omega) (by rw [ud_ne (by omega)]) ?_
              refine sa_i4 hS dX7_doFill_168 VX7_fills lX7_140 (rq0 rfl rfl) (Nat.le_of_ble_eq_true rfl) (C_fills hS (hB.wr (by omega)) hBB (by omega) (by omega) hB0 (by rw [ud_ne (by omega)]; exact h0) (by rw [ud_ne (by omega)]; exact h3) ?_)
              dsimp only [pushR]
              refine wp_aload_n dX7_doFill_171 rfl ?_
              refine sa_get hS dX7_doFill_172 fX7_9 ?_
              refine wp_bipush dX7_doFill_175 rfl ?_
              refine wp_dup2 dX7_doFill_177 rfl rfl ?_
              refine sa_ld (v := (spFills (ud g (hA c + 1) (-1)) (g (hA c + 0)) (g (hA c + 1)) (g (hA c + 4)) (g (hA c + 5))) 20) hS dX7_doFill_178 (by decide) (by omega) rfl ?_
              refine wp_iconst dX7_doFill_179 ?_
              refine wp_iadd dX7_doFill_180 ?_
              refine sa_st hS dX7_doFill_181 (by decide) (by omega) ?_
              refine wp_iconst dX7_doFill_182 ?_
              exact wp_iret dX7_doFill_183 rfl (by simp only [spFill] at hQ; (repeat' split at hQ) <;> first | (exfalso; omega) | exact hQ)
            · refine wp_aload_n dX7_doFill_135 rfl ?_
              refine sa_get hS dX7_doFill_136 fX7_9 ?_
              refine wp_bipush dX7_doFill_139 rfl ?_
              refine wp_dup2 dX7_doFill_141 rfl rfl ?_
              refine sa_ld (v := g 21) hS dX7_doFill_142 (by decide) (by omega) (by rw [ud_ne (by omega)]) ?_
              refine wp_iconst dX7_doFill_143 ?_
              refine wp_iadd dX7_doFill_144 ?_
              refine sa_st hS dX7_doFill_145 (by decide) (by omega) ?_
              refine wp_iconst dX7_doFill_146 ?_
              exact wp_iret dX7_doFill_147 rfl (by simp only [spFill] at hQ; (repeat' split at hQ) <;> first | (exfalso; omega) | exact hQ)
      · refine wp_aload_n dX7_doFill_68 rfl ?_
        refine wp_iload dX7_doFill_69 rfl ?_
        refine sa_i1 hS dX7_doFill_71 VX7_isThere lX7_115 (rq0 rfl rfl) (Nat.le_of_ble_eq_true rfl) (C_isThere (v0 := g 0) (v1 := g (lA (g (hA c + 0)) (g (hA c + 1)))) hS (by omega) (by rw [ud_ne (by omega)]) (by rw [ud_ne (by omega)]) (by first | assumption | exact hR _ | exact bI_r _ | exact r32_1 hB hBB _ | exact r32_2 hB hBB _ _ | (unfold r32; omega)) (by first | assumption | exact hR _ | exact bI_r _ | exact r32_1 hB hBB _ | exact r32_2 hB hBB _ _ | (unfold r32; omega)) ?_)
        dsimp only [pushR]
        refine wp_beq 97 dX7_doFill_74 rfl (fun c74 => ?_) (fun c74 => ?_)
        · refine wp_iconst dX7_doFill_97 ?_
          refine wp_goto 102 dX7_doFill_98 rfl ?_
          refine wp_istore (L' := [some (vR p), some (vI c), some (vI (hA c)), some (vI (g (hA c + 1))), some (vI (g (hA c + 0))), some (vI (lA (g (hA c + 0)) (g (hA c + 1)))), some (vI 1)]) dX7_doFill_102 (by decide) rfl ?_
          refine wp_iload dX7_doFill_104 rfl ?_
          refine wp_if_ne 135 dX7_doFill_106 rfl (by first | assumption | exact hR _ | exact bI_r _ | exact r32_1 hB hBB _ | exact r32_2 hB hBB _ _ | (unfold r32; omega)) (fun c106 => ?_) (fun c106 => ?_)
          · refine wp_aload_n dX7_doFill_135 rfl ?_
            refine sa_get hS dX7_doFill_136 fX7_9 ?_
            refine wp_bipush dX7_doFill_139 rfl ?_
            refine wp_dup2 dX7_doFill_141 rfl rfl ?_
            refine sa_ld (v := g 21) hS dX7_doFill_142 (by decide) (by omega) (by rw [ud_ne (by omega)]) ?_
            refine wp_iconst dX7_doFill_143 ?_
            refine wp_iadd dX7_doFill_144 ?_
            refine sa_st hS dX7_doFill_145 (by decide) (by omega) ?_
            refine wp_iconst dX7_doFill_146 ?_
            exact wp_iret dX7_doFill_147 rfl (by simp only [spFill] at hQ; (repeat' split at hQ) <;> first | (exfalso; omega) | exact hQ)
          · refine wp_aload_n dX7_doFill_109 rfl ?_
            refine sa_get hS dX7_doFill_110 fX7_9 ?_
            refine wp_iload_n dX7_doFill_113 rfl ?_
            refine wp_bipush dX7_doFill_114 rfl ?_
            refine wp_iadd dX7_doFill_116 ?_
            refine sa_ld (v := g (hA c + 6)) hS dX7_doFill_117 (by decide) (by omega) (by rw [ud_ne (by omega)]) ?_
            refine wp_iconst dX7_doFill_118 ?_
            refine wp_icmp_ne 148 dX7_doFill_119 rfl (by first | assumption | exact hR _ | exact bI_r _ | exact r32_1 hB hBB _ | exact r32_2 hB hBB _ _ | (unfold r32; omega)) ⟨by omega, by omega⟩ (fun c119 => ?_) (fun c119 => ?_)
            · refine wp_aload_n dX7_doFill_148 rfl ?_
              refine wp_iload dX7_doFill_149 rfl ?_
              refine wp_iload_n dX7_doFill_151 rfl ?_
              refine wp_aload_n dX7_doFill_152 rfl ?_
              refine sa_get hS dX7_doFill_153 fX7_9 ?_
              refine wp_iload_n dX7_doFill_156 rfl ?_
              refine wp_iconst dX7_doFill_157 ?_
              refine wp_iadd dX7_doFill_158 ?_
              refine sa_ld (v := g (hA c + 4)) hS dX7_doFill_159 (by decide) (by omega) (by rw [ud_ne (by omega)]) ?_
              refine wp_aload_n dX7_doFill_160 rfl ?_
              refine sa_get hS dX7_doFill_161 fX7_9 ?_
              refine wp_iload_n dX7_doFill_164 rfl ?_
              refine wp_iconst dX7_doFill_165 ?_
              refine wp_iadd dX7_doFill_166 ?_
              refine sa_ld (v := g (hA c + 5)) hS dX7_doFill_167 (by decide) (by omega) (by rw [ud_ne (by omega)]) ?_
              refine sa_i4 hS dX7_doFill_168 VX7_fills lX7_140 (rq0 rfl rfl) (Nat.le_of_ble_eq_true rfl) (C_fills hS (hB.wr (by omega)) hBB (by omega) (by omega) hB0 (by rw [ud_ne (by omega)]; exact h0) (by rw [ud_ne (by omega)]; exact h3) ?_)
              dsimp only [pushR]
              refine wp_aload_n dX7_doFill_171 rfl ?_
              refine sa_get hS dX7_doFill_172 fX7_9 ?_
              refine wp_bipush dX7_doFill_175 rfl ?_
              refine wp_dup2 dX7_doFill_177 rfl rfl ?_
              refine sa_ld (v := (spFills (ud g (hA c + 1) (-1)) (g (hA c + 0)) (g (hA c + 1)) (g (hA c + 4)) (g (hA c + 5))) 20) hS dX7_doFill_178 (by decide) (by omega) rfl ?_
              refine wp_iconst dX7_doFill_179 ?_
              refine wp_iadd dX7_doFill_180 ?_
              refine sa_st hS dX7_doFill_181 (by decide) (by omega) ?_
              refine wp_iconst dX7_doFill_182 ?_
              exact wp_iret dX7_doFill_183 rfl (by simp only [spFill] at hQ; (repeat' split at hQ) <;> first | (exfalso; omega) | exact hQ)
            · refine wp_aload_n dX7_doFill_122 rfl ?_
              refine wp_iload dX7_doFill_123 rfl ?_
              refine wp_iload_n dX7_doFill_125 rfl ?_
              refine wp_is2 dX7_doFill_126 SX7_holdAt lX7_137 (rq0 rfl rfl) (Nat.le_of_ble_eq_true rfl) (C_holdAt ?_)
              dsimp only [pushR]
              refine sa_i1 hS dX7_doFill_129 VX7_isThere lX7_115 (rq0 rfl rfl) (Nat.le_of_ble_eq_true rfl) (C_isThere (v0 := g 0) (v1 := g (dA (g (hA c + 0)) (g (hA c + 1)))) hS (by omega) (by rw [ud_ne (by omega)]) (by rw [ud_ne (by omega)]) (by first | assumption | exact hR _ | exact bI_r _ | exact r32_1 hB hBB _ | exact r32_2 hB hBB _ _ | (unfold r32; omega)) (by first | assumption | exact hR _ | exact bI_r _ | exact r32_1 hB hBB _ | exact r32_2 hB hBB _ _ | (unfold r32; omega)) ?_)
              dsimp only [pushR]
              refine wp_beq 148 dX7_doFill_132 rfl (fun c132 => ?_) (fun c132 => ?_)
              · refine wp_aload_n dX7_doFill_148 rfl ?_
                refine wp_iload dX7_doFill_149 rfl ?_
                refine wp_iload_n dX7_doFill_151 rfl ?_
                refine wp_aload_n dX7_doFill_152 rfl ?_
                refine sa_get hS dX7_doFill_153 fX7_9 ?_
                refine wp_iload_n dX7_doFill_156 rfl ?_
                refine wp_iconst dX7_doFill_157 ?_
                refine wp_iadd dX7_doFill_158 ?_
                refine sa_ld (v := g (hA c + 4)) hS dX7_doFill_159 (by decide) (by omega) (by rw [ud_ne (by omega)]) ?_
                refine wp_aload_n dX7_doFill_160 rfl ?_
                refine sa_get hS dX7_doFill_161 fX7_9 ?_
                refine wp_iload_n dX7_doFill_164 rfl ?_
                refine wp_iconst dX7_doFill_165 ?_
                refine wp_iadd dX7_doFill_166 ?_
                refine sa_ld (v := g (hA c + 5)) hS dX7_doFill_167 (by decide) (by omega) (by rw [ud_ne (by omega)]) ?_
                refine sa_i4 hS dX7_doFill_168 VX7_fills lX7_140 (rq0 rfl rfl) (Nat.le_of_ble_eq_true rfl) (C_fills hS (hB.wr (by omega)) hBB (by omega) (by omega) hB0 (by rw [ud_ne (by omega)]; exact h0) (by rw [ud_ne (by omega)]; exact h3) ?_)
                dsimp only [pushR]
                refine wp_aload_n dX7_doFill_171 rfl ?_
                refine sa_get hS dX7_doFill_172 fX7_9 ?_
                refine wp_bipush dX7_doFill_175 rfl ?_
                refine wp_dup2 dX7_doFill_177 rfl rfl ?_
                refine sa_ld (v := (spFills (ud g (hA c + 1) (-1)) (g (hA c + 0)) (g (hA c + 1)) (g (hA c + 4)) (g (hA c + 5))) 20) hS dX7_doFill_178 (by decide) (by omega) rfl ?_
                refine wp_iconst dX7_doFill_179 ?_
                refine wp_iadd dX7_doFill_180 ?_
                refine sa_st hS dX7_doFill_181 (by decide) (by omega) ?_
                refine wp_iconst dX7_doFill_182 ?_
                exact wp_iret dX7_doFill_183 rfl (by simp only [spFill] at hQ; (repeat' split at hQ) <;> first | (exfalso; omega) | exact hQ)
              · refine wp_aload_n dX7_doFill_135 rfl ?_
                refine sa_get hS dX7_doFill_136 fX7_9 ?_
                refine wp_bipush dX7_doFill_139 rfl ?_
                refine wp_dup2 dX7_doFill_141 rfl rfl ?_
                refine sa_ld (v := g 21) hS dX7_doFill_142 (by decide) (by omega) (by rw [ud_ne (by omega)]) ?_
                refine wp_iconst dX7_doFill_143 ?_
                refine wp_iadd dX7_doFill_144 ?_
                refine sa_st hS dX7_doFill_145 (by decide) (by omega) ?_
                refine wp_iconst dX7_doFill_146 ?_
                exact wp_iret dX7_doFill_147 rfl (by simp only [spFill] at hQ; (repeat' split at hQ) <;> first | (exfalso; omega) | exact hQ)
        · refine wp_aload_n dX7_doFill_77 rfl ?_
          refine sa_get hS dX7_doFill_78 fX7_9 ?_
          refine wp_iload dX7_doFill_81 rfl ?_
          refine wp_iconst dX7_doFill_83 ?_
          refine wp_iadd dX7_doFill_84 ?_
          refine sa_ld (v := g (lA (g (hA c + 0)) (g (hA c + 1)) + 2)) hS dX7_doFill_85 (by decide) (by omega) (by rw [ud_ne (by omega)]) ?_
          refine wp_aload_n dX7_doFill_86 rfl ?_
          refine sa_get hS dX7_doFill_87 fX7_9 ?_
          refine wp_iload_n dX7_doFill_90 rfl ?_
          refine wp_iconst dX7_doFill_91 ?_
          refine wp_iadd dX7_doFill_92 ?_
          refine sa_ld (v := g (hA c + 2)) hS dX7_doFill_93 (by decide) (by omega) (by rw [ud_ne (by omega)]) ?_
          refine wp_icmp_eq 101 dX7_doFill_94 rfl (by first | assumption | exact hR _ | exact bI_r _ | exact r32_1 hB hBB _ | exact r32_2 hB hBB _ _ | (unfold r32; omega)) (by first | assumption | exact hR _ | exact bI_r _ | exact r32_1 hB hBB _ | exact r32_2 hB hBB _ _ | (unfold r32; omega)) (fun c94 => ?_) (fun c94 => ?_)
          · refine wp_iconst dX7_doFill_101 ?_
            refine wp_istore (L' := [some (vR p), some (vI c), some (vI (hA c)), some (vI (g (hA c + 1))), some (vI (g (hA c + 0))), some (vI (lA (g (hA c + 0)) (g (hA c + 1)))), some (vI 0)]) dX7_doFill_102 (by decide) rfl ?_
            refine wp_iload dX7_doFill_104 rfl ?_
            refine wp_if_ne 135 dX7_doFill_106 rfl (by first | assumption | exact hR _ | exact bI_r _ | exact r32_1 hB hBB _ | exact r32_2 hB hBB _ _ | (unfold r32; omega)) (fun c106 => ?_) (fun c106 => ?_)
            · refine wp_aload_n dX7_doFill_135 rfl ?_
              refine sa_get hS dX7_doFill_136 fX7_9 ?_
              refine wp_bipush dX7_doFill_139 rfl ?_
              refine wp_dup2 dX7_doFill_141 rfl rfl ?_
              refine sa_ld (v := g 21) hS dX7_doFill_142 (by decide) (by omega) (by rw [ud_ne (by omega)]) ?_
              refine wp_iconst dX7_doFill_143 ?_
              refine wp_iadd dX7_doFill_144 ?_
              refine sa_st hS dX7_doFill_145 (by decide) (by omega) ?_
              refine wp_iconst dX7_doFill_146 ?_
              exact wp_iret dX7_doFill_147 rfl (by simp only [spFill] at hQ; (repeat' split at hQ) <;> first | (exfalso; omega) | exact hQ)
            · refine wp_aload_n dX7_doFill_109 rfl ?_
              refine sa_get hS dX7_doFill_110 fX7_9 ?_
              refine wp_iload_n dX7_doFill_113 rfl ?_
              refine wp_bipush dX7_doFill_114 rfl ?_
              refine wp_iadd dX7_doFill_116 ?_
              refine sa_ld (v := g (hA c + 6)) hS dX7_doFill_117 (by decide) (by omega) (by rw [ud_ne (by omega)]) ?_
              refine wp_iconst dX7_doFill_118 ?_
              refine wp_icmp_ne 148 dX7_doFill_119 rfl (by first | assumption | exact hR _ | exact bI_r _ | exact r32_1 hB hBB _ | exact r32_2 hB hBB _ _ | (unfold r32; omega)) ⟨by omega, by omega⟩ (fun c119 => ?_) (fun c119 => ?_)
              · refine wp_aload_n dX7_doFill_148 rfl ?_
                refine wp_iload dX7_doFill_149 rfl ?_
                refine wp_iload_n dX7_doFill_151 rfl ?_
                refine wp_aload_n dX7_doFill_152 rfl ?_
                refine sa_get hS dX7_doFill_153 fX7_9 ?_
                refine wp_iload_n dX7_doFill_156 rfl ?_
                refine wp_iconst dX7_doFill_157 ?_
                refine wp_iadd dX7_doFill_158 ?_
                refine sa_ld (v := g (hA c + 4)) hS dX7_doFill_159 (by decide) (by omega) (by rw [ud_ne (by omega)]) ?_
                refine wp_aload_n dX7_doFill_160 rfl ?_
                refine sa_get hS dX7_doFill_161 fX7_9 ?_
                refine wp_iload_n dX7_doFill_164 rfl ?_
                refine wp_iconst dX7_doFill_165 ?_
                refine wp_iadd dX7_doFill_166 ?_
                refine sa_ld (v := g (hA c + 5)) hS dX7_doFill_167 (by decide) (by omega) (by rw [ud_ne (by omega)]) ?_
                refine sa_i4 hS dX7_doFill_168 VX7_fills lX7_140 (rq0 rfl rfl) (Nat.le_of_ble_eq_true rfl) (C_fills hS (hB.wr (by omega)) hBB (by omega) (by omega) hB0 (by rw [ud_ne (by omega)]; exact h0) (by rw [ud_ne (by omega)]; exact h3) ?_)
                dsimp only [pushR]
                refine wp_aload_n dX7_doFill_171 rfl ?_
                refine sa_get hS dX7_doFill_172 fX7_9 ?_
                refine wp_bipush dX7_doFill_175 rfl ?_
                refine wp_dup2 dX7_doFill_177 rfl rfl ?_
                refine sa_ld (v := (spFills (ud g (hA c + 1) (-1)) (g (hA c + 0)) (g (hA c + 1)) (g (hA c + 4)) (g (hA c + 5))) 20) hS dX7_doFill_178 (by decide) (by omega) rfl ?_
                refine wp_iconst dX7_doFill_179 ?_
                refine wp_iadd dX7_doFill_180 ?_
                refine sa_st hS dX7_doFill_181 (by decide) (by omega) ?_
                refine wp_iconst dX7_doFill_182 ?_
                exact wp_iret dX7_doFill_183 rfl (by simp only [spFill] at hQ; (repeat' split at hQ) <;> first | (exfalso; omega) | exact hQ)
              · refine wp_aload_n dX7_doFill_122 rfl ?_
                refine wp_iload dX7_doFill_123 rfl ?_
                refine wp_iload_n dX7_doFill_125 rfl ?_
                refine wp_is2 dX7_doFill_126 SX7_holdAt lX7_137 (rq0 rfl rfl) (Nat.le_of_ble_eq_true rfl) (C_holdAt ?_)
                dsimp only [pushR]
                refine sa_i1 hS dX7_doFill_129 VX7_isThere lX7_115 (rq0 rfl rfl) (Nat.le_of_ble_eq_true rfl) (C_isThere (v0 := g 0) (v1 := g (dA (g (hA c + 0)) (g (hA c + 1)))) hS (by omega) (by rw [ud_ne (by omega)]) (by rw [ud_ne (by omega)]) (by first | assumption | exact hR _ | exact bI_r _ | exact r32_1 hB hBB _ | exact r32_2 hB hBB _ _ | (unfold r32; omega)) (by first | assumption | exact hR _ | exact bI_r _ | exact r32_1 hB hBB _ | exact r32_2 hB hBB _ _ | (unfold r32; omega)) ?_)
                dsimp only [pushR]
                refine wp_beq 148 dX7_doFill_132 rfl (fun c132 => ?_) (fun c132 => ?_)
                · refine wp_aload_n dX7_doFill_148 rfl ?_
                  refine wp_iload dX7_doFill_149 rfl ?_
                  refine wp_iload_n dX7_doFill_151 rfl ?_
                  refine wp_aload_n dX7_doFill_152 rfl ?_
                  refine sa_get hS dX7_doFill_153 fX7_9 ?_
                  refine wp_iload_n dX7_doFill_156 rfl ?_
                  refine wp_iconst dX7_doFill_157 ?_
                  refine wp_iadd dX7_doFill_158 ?_
                  refine sa_ld (v := g (hA c + 4)) hS dX7_doFill_159 (by decide) (by omega) (by rw [ud_ne (by omega)]) ?_
                  refine wp_aload_n dX7_doFill_160 rfl ?_
                  refine sa_get hS dX7_doFill_161 fX7_9 ?_
                  refine wp_iload_n dX7_doFill_164 rfl ?_
                  refine wp_iconst dX7_doFill_165 ?_
                  refine wp_iadd dX7_doFill_166 ?_
                  refine sa_ld (v := g (hA c + 5)) hS dX7_doFill_167 (by decide) (by omega) (by rw [ud_ne (by omega)]) ?_
                  refine sa_i4 hS dX7_doFill_168 VX7_fills lX7_140 (rq0 rfl rfl) (Nat.le_of_ble_eq_true rfl) (C_fills hS (hB.wr (by omega)) hBB (by omega) (by omega) hB0 (by rw [ud_ne (by omega)]; exact h0) (by rw [ud_ne (by omega)]; exact h3) ?_)
                  dsimp only [pushR]
                  refine wp_aload_n dX7_doFill_171 rfl ?_
                  refine sa_get hS dX7_doFill_172 fX7_9 ?_
                  refine wp_bipush dX7_doFill_175 rfl ?_
                  refine wp_dup2 dX7_doFill_177 rfl rfl ?_
                  refine sa_ld (v := (spFills (ud g (hA c + 1) (-1)) (g (hA c + 0)) (g (hA c + 1)) (g (hA c + 4)) (g (hA c + 5))) 20) hS dX7_doFill_178 (by decide) (by omega) rfl ?_
                  refine wp_iconst dX7_doFill_179 ?_
                  refine wp_iadd dX7_doFill_180 ?_
                  refine sa_st hS dX7_doFill_181 (by decide) (by omega) ?_
                  refine wp_iconst dX7_doFill_182 ?_
                  exact wp_iret dX7_doFill_183 rfl (by simp only [spFill] at hQ; (repeat' split at hQ) <;> first | (exfalso; omega) | exact hQ)
                · refine wp_aload_n dX7_doFill_135 rfl ?_
                  refine sa_get hS dX7_doFill_136 fX7_9 ?_
                  refine wp_bipush dX7_doFill_139 rfl ?_
                  refine wp_dup2 dX7_doFill_141 rfl rfl ?_
                  refine sa_ld (v := g 21) hS dX7_doFill_142 (by decide) (by omega) (by rw [ud_ne (by omega)]) ?_
                  refine wp_iconst dX7_doFill_143 ?_
                  refine wp_iadd dX7_doFill_144 ?_
                  refine sa_st hS dX7_doFill_145 (by decide) (by omega) ?_
                  refine wp_iconst dX7_doFill_146 ?_
                  exact wp_iret dX7_doFill_147 rfl (by simp only [spFill] at hQ; (repeat' split at hQ) <;> first | (exfalso; omega) | exact hQ)
          · refine wp_iconst dX7_doFill_97 ?_
            refine wp_goto 102 dX7_doFill_98 rfl ?_
            refine wp_istore (L' := [some (vR p), some (vI c), some (vI (hA c)), some (vI (g (hA c + 1))), some (vI (g (hA c + 0))), some (vI (lA (g (hA c + 0)) (g (hA c + 1)))), some (vI 1)]) dX7_doFill_102 (by decide) rfl ?_
            refine wp_iload dX7_doFill_104 rfl ?_
            refine wp_if_ne 135 dX7_doFill_106 rfl (by first | assumption | exact hR _ | exact bI_r _ | exact r32_1 hB hBB _ | exact r32_2 hB hBB _ _ | (unfold r32; omega)) (fun c106 => ?_) (fun c106 => ?_)
            · refine wp_aload_n dX7_doFill_135 rfl ?_
              refine sa_get hS dX7_doFill_136 fX7_9 ?_
              refine wp_bipush dX7_doFill_139 rfl ?_
              refine wp_dup2 dX7_doFill_141 rfl rfl ?_
              refine sa_ld (v := g 21) hS dX7_doFill_142 (by decide) (by omega) (by rw [ud_ne (by omega)]) ?_
              refine wp_iconst dX7_doFill_143 ?_
              refine wp_iadd dX7_doFill_144 ?_
              refine sa_st hS dX7_doFill_145 (by decide) (by omega) ?_
              refine wp_iconst dX7_doFill_146 ?_
              exact wp_iret dX7_doFill_147 rfl (by simp only [spFill] at hQ; (repeat' split at hQ) <;> first | (exfalso; omega) | exact hQ)
            · refine wp_aload_n dX7_doFill_109 rfl ?_
              refine sa_get hS dX7_doFill_110 fX7_9 ?_
              refine wp_iload_n dX7_doFill_113 rfl ?_
              refine wp_bipush dX7_doFill_114 rfl ?_
              refine wp_iadd dX7_doFill_116 ?_
              refine sa_ld (v := g (hA c + 6)) hS dX7_doFill_117 (by decide) (by omega) (by rw [ud_ne (by omega)]) ?_
              refine wp_iconst dX7_doFill_118 ?_
              refine wp_icmp_ne 148 dX7_doFill_119 rfl (by first | assumption | exact hR _ | exact bI_r _ | exact r32_1 hB hBB _ | exact r32_2 hB hBB _ _ | (unfold r32; omega)) ⟨by omega, by omega⟩ (fun c119 => ?_) (fun c119 => ?_)
              · refine wp_aload_n dX7_doFill_148 rfl ?_
                refine wp_iload dX7_doFill_149 rfl ?_
                refine wp_iload_n dX7_doFill_151 rfl ?_
                refine wp_aload_n dX7_doFill_152 rfl ?_
                refine sa_get hS dX7_doFill_153 fX7_9 ?_
                refine wp_iload_n dX7_doFill_156 rfl ?_
                refine wp_iconst dX7_doFill_157 ?_
                refine wp_iadd dX7_doFill_158 ?_
                refine sa_ld (v := g (hA c + 4)) hS dX7_doFill_159 (by decide) (by omega) (by rw [ud_ne (by omega)]) ?_
                refine wp_aload_n dX7_doFill_160 rfl ?_
                refine sa_get hS dX7_doFill_161 fX7_9 ?_
                refine wp_iload_n dX7_doFill_164 rfl ?_
                refine wp_iconst dX7_doFill_165 ?_
                refine wp_iadd dX7_doFill_166 ?_
                refine sa_ld (v := g (hA c + 5)) hS dX7_doFill_167 (by decide) (by omega) (by rw [ud_ne (by omega)]) ?_
                refine sa_i4 hS dX7_doFill_168 VX7_fills lX7_140 (rq0 rfl rfl) (Nat.le_of_ble_eq_true rfl) (C_fills hS (hB.wr (by omega)) hBB (by omega) (by omega) hB0 (by rw [ud_ne (by omega)]; exact h0) (by rw [ud_ne (by omega)]; exact h3) ?_)
                dsimp only [pushR]
                refine wp_aload_n dX7_doFill_171 rfl ?_
                refine sa_get hS dX7_doFill_172 fX7_9 ?_
                refine wp_bipush dX7_doFill_175 rfl ?_
                refine wp_dup2 dX7_doFill_177 rfl rfl ?_
                refine sa_ld (v := (spFills (ud g (hA c + 1) (-1)) (g (hA c + 0)) (g (hA c + 1)) (g (hA c + 4)) (g (hA c + 5))) 20) hS dX7_doFill_178 (by decide) (by omega) rfl ?_
                refine wp_iconst dX7_doFill_179 ?_
                refine wp_iadd dX7_doFill_180 ?_
                refine sa_st hS dX7_doFill_181 (by decide) (by omega) ?_
                refine wp_iconst dX7_doFill_182 ?_
                exact wp_iret dX7_doFill_183 rfl (by simp only [spFill] at hQ; (repeat' split at hQ) <;> first | (exfalso; omega) | exact hQ)
              · refine wp_aload_n dX7_doFill_122 rfl ?_
                refine wp_iload dX7_doFill_123 rfl ?_
                refine wp_iload_n dX7_doFill_125 rfl ?_
                refine wp_is2 dX7_doFill_126 SX7_holdAt lX7_137 (rq0 rfl rfl) (Nat.le_of_ble_eq_true rfl) (C_holdAt ?_)
                dsimp only [pushR]
                refine sa_i1 hS dX7_doFill_129 VX7_isThere lX7_115 (rq0 rfl rfl) (Nat.le_of_ble_eq_true rfl) (C_isThere (v0 := g 0) (v1 := g (dA (g (hA c + 0)) (g (hA c + 1)))) hS (by omega) (by rw [ud_ne (by omega)]) (by rw [ud_ne (by omega)]) (by first | assumption | exact hR _ | exact bI_r _ | exact r32_1 hB hBB _ | exact r32_2 hB hBB _ _ | (unfold r32; omega)) (by first | assumption | exact hR _ | exact bI_r _ | exact r32_1 hB hBB _ | exact r32_2 hB hBB _ _ | (unfold r32; omega)) ?_)
                dsimp only [pushR]
                refine wp_beq 148 dX7_doFill_132 rfl (fun c132 => ?_) (fun c132 => ?_)
                · refine wp_aload_n dX7_doFill_148 rfl ?_
                  refine wp_iload dX7_doFill_149 rfl ?_
                  refine wp_iload_n dX7_doFill_151 rfl ?_
                  refine wp_aload_n dX7_doFill_152 rfl ?_
                  refine sa_get hS dX7_doFill_153 fX7_9 ?_
                  refine wp_iload_n dX7_doFill_156 rfl ?_
                  refine wp_iconst dX7_doFill_157 ?_
                  refine wp_iadd dX7_doFill_158 ?_
                  refine sa_ld (v := g (hA c + 4)) hS dX7_doFill_159 (by decide) (by omega) (by rw [ud_ne (by omega)]) ?_
                  refine wp_aload_n dX7_doFill_160 rfl ?_
                  refine sa_get hS dX7_doFill_161 fX7_9 ?_
                  refine wp_iload_n dX7_doFill_164 rfl ?_
                  refine wp_iconst dX7_doFill_165 ?_
                  refine wp_iadd dX7_doFill_166 ?_
                  refine sa_ld (v := g (hA c + 5)) hS dX7_doFill_167 (by decide) (by omega) (by rw [ud_ne (by omega)]) ?_
                  refine sa_i4 hS dX7_doFill_168 VX7_fills lX7_140 (rq0 rfl rfl) (Nat.le_of_ble_eq_true rfl) (C_fills hS (hB.wr (by omega)) hBB (by omega) (by omega) hB0 (by rw [ud_ne (by omega)]; exact h0) (by rw [ud_ne (by omega)]; exact h3) ?_)
                  dsimp only [pushR]
                  refine wp_aload_n dX7_doFill_171 rfl ?_
                  refine sa_get hS dX7_doFill_172 fX7_9 ?_
                  refine wp_bipush dX7_doFill_175 rfl ?_
                  refine wp_dup2 dX7_doFill_177 rfl rfl ?_
                  refine sa_ld (v := (spFills (ud g (hA c + 1) (-1)) (g (hA c + 0)) (g (hA c + 1)) (g (hA c + 4)) (g (hA c + 5))) 20) hS dX7_doFill_178 (by decide) (by omega) rfl ?_
                  refine wp_iconst dX7_doFill_179 ?_
                  refine wp_iadd dX7_doFill_180 ?_
                  refine sa_st hS dX7_doFill_181 (by decide) (by omega) ?_
                  refine wp_iconst dX7_doFill_182 ?_
                  exact wp_iret dX7_doFill_183 rfl (by simp only [spFill] at hQ; (repeat' split at hQ) <;> first | (exfalso; omega) | exact hQ)
                · refine wp_aload_n dX7_doFill_135 rfl ?_
                  refine sa_get hS dX7_doFill_136 fX7_9 ?_
                  refine wp_bipush dX7_doFill_139 rfl ?_
                  refine wp_dup2 dX7_doFill_141 rfl rfl ?_
                  refine sa_ld (v := g 21) hS dX7_doFill_142 (by decide) (by omega) (by rw [ud_ne (by omega)]) ?_
                  refine wp_iconst dX7_doFill_143 ?_
                  refine wp_iadd dX7_doFill_144 ?_
                  refine sa_st hS dX7_doFill_145 (by decide) (by omega) ?_
                  refine wp_iconst dX7_doFill_146 ?_
                  exact wp_iret dX7_doFill_147 rfl (by simp only [spFill] at hQ; (repeat' split at hQ) <;> first | (exfalso; omega) | exact hQ)
    · refine wp_bipush dX7_doFill_30 rfl ?_
      exact wp_iret dX7_doFill_32 rfl (by simp only [spFill] at hQ; (repeat' split at hQ) <;> first | (exfalso; omega) | exact hQ)
end MC
