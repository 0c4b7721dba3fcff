/-! applying all that is left: places, and the class' method -/
section AB
variable {X : XS} {h : AH} {Q : Option AV → AH → Prop} {p q : Nat}
theorem ap_pl {r : Int} {g : Int → Int} {B : Int} (hI : IM B g) (hP : PM g) (hr : 0 ≤ r ∧ r < 3) (hl : g (10 + r) ≠ g 2) : ∀ j, j = 2 ∨ 10 ≤ j ∧ j < 13 → (spApply g r).2 j = if j = 10 + r then g (10 + r) + 1 else g j := by
  have n2 := hI.n60 (j := 2) (by omega)
  have nr := hI.n60 (j := 10 + r) (by omega)
  have pl := hP r hr
  have hk := apK_b hI hr (by omega)
  have h3 : ∀ j, j = 2 ∨ 10 ≤ j ∧ j < 13 → ap3 g r j = if j = 10 + r then g (10 + r) + 1 else g j := fun j hj => by
    unfold ap3
    rw [spDel_at (by omega) hk (by omega) (by omega) (by omega), spDel_at (by omega) hk (by omega) (by omega) (by omega)]
    unfold ap1 ud
    rfl
  intro j hj
  unfold spApply
  rw [if_neg hl]
  split
  · show ud (ap3 g r) (942 + 10 * r + apK g r) 0 j = _
    rw [ud_ne (by omega)]; exact h3 j hj
  · exact h3 j hj
theorem spR_pl {r : Int} (hr : 0 ≤ r ∧ r < 3) : ∀ (m : Nat) (B : Int) (f g : Int → Int), AW B f g → 1000 ≤ B → g (10 + r) + m ≤ g 2 → ∀ j, j = 2 ∨ 10 ≤ j ∧ j < 13 → spR r m g j = if j = 10 + r then g (10 + r) + m else g j := by
  intro m
  induction m with
  | zero =>
    intro B f g h hB hl j hj
    show g j = _
    split
    · rename_i e; rw [e]; omega
    · rfl
  | succ m ih =>
    intro B f g h hB hl j hj
    have w := ap_pl h.2.1 h.2.2 hr (by omega)
    have w2 := w 2 (by omega)
    have wr := w (10 + r) (by omega)
    rw [if_neg (by omega)] at w2
    rw [if_pos rfl] at wr
    have q := ih (B + 500) _ _ (aw_st h hB hr) (by omega) (by omega) j hj
    show spR r m (spApply g r).2 j = _
    rw [q, wr]
    split
    · omega
    · rename_i e; rw [w j hj, if_neg e]
def aaL : Nat → Int → Int → (Int → Int) → Int × (Int → Int)
  | 0, _, n, f => (n, f)
  | m + 1, r, n, f => aaL m (r + 1) (n + (f 1 - f (30 + r))) (apR r (f 1 - f (30 + r)).toNat f)
def gaL : Nat → Int → Int → (Int → Int) → Int × (Int → Int)
  | 0, _, n, g => (n, g)
  | m + 1, r, n, g => gaL m (r + 1) (n + (g 2 - g (10 + r))) (spR r (g 2 - g (10 + r)).toNat g)
theorem aw_b {B r : Int} {f g : Int → Int} (h : AW B f g) (hr : 0 ≤ r ∧ r < 3) : f 1 = g 2 ∧ f (30 + r) = g (10 + r) ∧ 0 ≤ g 2 - g (10 + r) ∧ g 2 - g (10 + r) ≤ 60 := by
  have A0 := h.1.1.A
  unfold SmA at A0
  have p0 := h.1.1.P r hr
  have n2 := h.2.1.n60 (j := 2) (by omega)
  have nr := h.2.1.n60 (j := 10 + r) (by omega)
  have pl := h.2.2 r hr
  omega
theorem aa_eq : ∀ (m : Nat) (r n B : Int) (f g : Int → Int), r + m = 3 → 0 ≤ r → AW B f g → 1000 ≤ B → (aaL m r n f).1 = (gaL m r n g).1 ∧ AW (B + 30000 * m) (aaL m r n f).2 (gaL m r n g).2 := by
  intro m
  induction m with
  | zero => intro r n B f g _ _ h _; exact ⟨rfl, h.1, h.2.1.up (by omega), h.2.2⟩
  | succ m ih =>
    intro r n B f g h1 h2 h hB
    have b := aw_b (r := r) h (by omega)
    unfold aaL gaL
    rw [b.1, b.2.1]
    have w := aw_R (r := r) (by omega) (g 2 - g (10 + r)).toNat B f g h hB
    have w2 : AW (B + 30000) (apR r (g 2 - g (10 + r)).toNat f) (spR r (g 2 - g (10 + r)).toNat g) := ⟨w.1, w.2.1.up (by omega), w.2.2⟩
    have k := ih (r + 1) (n + (g 2 - g (10 + r))) (B + 30000) _ _ (by omega) (by omega) w2 (by omega)
    exact ⟨k.1, k.2.1, k.2.2.1.up (by omega), k.2.2.2⟩
set_option maxHeartbeats 1000000 in
theorem lp_aa {b : Nat × Nat} (hS : SA 5 p q h) : ∀ (m : Nat) (r n B : Int) (f g : Int → Int) (y : Option AV), r + m = 3 → 0 ≤ r → AW B f g → 1000 ≤ B → B + 30000 * m ≤ 8000000 → Q (some (vI (aaL m r n f).1)) (h.set q (oI 1060 (aaL m r n f).2)) → Wp X kX5_applyAll 4 [some (vR p), some (vI n), some (vI r), y] [] (h.set q (oI 1060 f)) b Q := by
  intro m
  induction m with
  | zero =>
    intro r n B f g y h1 h2 hA hB hBB hQ
    refine wp_iload_n dX5_applyAll_4 rfl ?_
    refine wp_iconst dX5_applyAll_5 ?_
    refine wp_icmp_ge 45 dX5_applyAll_6 rfl (by unfold r32; omega) (by unfold r32; omega) (fun c => ?_) (fun c => absurd (by omega) c)
    refine wp_iload_n dX5_applyAll_45 rfl ?_
    exact wp_iret dX5_applyAll_46 rfl hQ
  | succ m ih =>
    intro r n B f g y h1 h2 hA hB hBB hQ
    have bb := aw_b (r := r) hA (by omega)
    unfold aaL at hQ
    refine wp_iload_n dX5_applyAll_4 rfl ?_
    refine wp_iconst dX5_applyAll_5 ?_
    refine wp_icmp_ge 45 dX5_applyAll_6 rfl (by unfold r32; omega) (by unfold r32; omega) (fun c => absurd c (by omega)) (fun c => ?_)
    refine wp_aload_n dX5_applyAll_9 rfl ?_
    refine sa_i0 hS dX5_applyAll_10 VX5_writes lX5_45 (rq0 rfl rfl) (Nat.le_of_ble_eq_true rfl) (C_wwrites hS rfl ?_)
    dsimp only [pushR]
    refine wp_aload_n dX5_applyAll_13 rfl ?_
    refine wp_iload_n dX5_applyAll_14 rfl ?_
    refine sa_i1 hS dX5_applyAll_15 VX5_placeOf lX5_56 (rq0 rfl rfl) (Nat.le_of_ble_eq_true rfl) (C_wplaceOf hS (by omega) rfl ?_)
    dsimp only [pushR]
    refine wp_isub dX5_applyAll_18 ?_
    refine wp_istore_n (L' := [some (vR p), some (vI n), some (vI r), some (vI (f 1 - f (30 + r)))]) dX5_applyAll_19 (by decide) rfl ?_
    have e : f 1 - f (30 + r) = (((f 1 - f (30 + r)).toNat : Nat) : Int) := by omega
    rw [e]
    refine lp_apR hS (by omega) (f 1 - f (30 + r)).toNat n B f g (by omega) hA hB (by omega) ?_
    rw [← e]
    refine wp_iinc (L' := [some (vR p), some (vI (n + (f 1 - f (30 + r)))), some (vI (r + 1)), some (vI 0)]) dX5_applyAll_39 rfl rfl ?_
    refine wp_goto 4 dX5_applyAll_42 rfl ?_
    have w := aw_R (r := r) (by omega) (f 1 - f (30 + r)).toNat B f g hA hB
    have w2 : AW (B + 30000) (apR r (f 1 - f (30 + r)).toNat f) (spR r (f 1 - f (30 + r)).toNat g) := ⟨w.1, w.2.1.up (by omega), w.2.2⟩
    exact ih (r + 1) _ (B + 30000) _ _ _ (by omega) (by omega) w2 (by omega) (by omega) hQ
theorem C_applyAll {f g : Int → Int} {B : Int} (hS : SA 5 p q h) (hA : AW B f g) (hB : 1000 ≤ B) (hBB : B + 90000 ≤ 8000000) (hQ : Q (some (vI (aaL 3 0 0 f).1)) (h.set q (oI 1060 (aaL 3 0 0 f).2))) : Cl X kX5_applyAll [vR p] (h.set q (oI 1060 f)) Q := by
  refine cl_of rfl (Nat.le_of_ble_eq_true rfl) rfl ?_
  refine wp_iconst dX5_applyAll_0 ?_
  refine wp_istore_n (L' := [some (vR p), some (vI 0), none, none]) dX5_applyAll_1 (by decide) rfl ?_
  refine wp_iconst dX5_applyAll_2 ?_
  refine wp_istore_n (L' := [some (vR p), some (vI 0), some (vI 0), none]) dX5_applyAll_3 (by decide) rfl ?_
  exact lp_aa hS 3 0 0 B f g none (by omega) (by omega) hA hB (by omega) hQ
end AB
