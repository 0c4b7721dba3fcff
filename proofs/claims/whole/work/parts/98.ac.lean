/-! applying all that is left, the reference's loop -/
section AC
variable {X : XS} {h : AH} {Q : Option AV → AH → Prop}
set_option maxHeartbeats 1000000 in
theorem lp_gaR {i r : Int} {b : Nat × Nat} (hS : SA 7 51 52 h) (hr : 0 ≤ r ∧ r < 3) : ∀ (m : Nat) (n B : Int) (f g : Int → Int), g 2 - g (10 + r) = m → AW B f g → 1000 ≤ B → B + 500 * m ≤ 8000000 → Wp X kX7_settled 55 [some (vR 51), some (vI i), some (vI (n + m)), some (vI r)] [] (h.set 52 (oI 1014 (spR r m g))) b Q → Wp X kX7_settled 39 [some (vR 51), some (vI i), some (vI n), some (vI r)] [] (h.set 52 (oI 1014 g)) b Q := by
  intro m
  induction m with
  | zero =>
    intro n B f g hm hA hB hBB hQ
    have hI := hA.2.1
    have hP := hA.2.2
    have e : spApply g r = (-2, g) := if_pos (by omega)
    refine wp_aload_n dX7_settled_39 rfl ?_
    refine wp_iload_n dX7_settled_40 rfl ?_
    refine sa_i1 hS dX7_settled_41 VX7_doApply lX7_182 (rq0 rfl rfl) (Nat.le_of_ble_eq_true rfl) (C_doApply hS hI.bd (by omega) (by omega) (hI.n60 (by omega)) ⟨(hI.n60 (by omega)).1, hP _ (by omega)⟩ (fun q => apK_b hI (by omega) (by have := hP r (by omega); have := hI.n60 (j := 2) (by omega); have := hI.n60 (j := 10 + r) (by omega); omega)) hI.set.2.2.1 hI.set.2.2.2.2.1 (hI.n0 (by omega)) ?_)
    dsimp only [pushR]
    rw [e]
    refine wp_bipush dX7_settled_44 rfl ?_
    refine wp_icmp_eq 55 dX7_settled_46 rfl (by unfold r32; omega) (by unfold r32; omega) (fun c => ?_) (fun c => absurd rfl c)
    rw [show n + ((0 : Nat) : Int) = n by omega] at hQ
    exact hQ
  | succ m ih =>
    intro n B f g hm hA hB hBB hQ
    have hI := hA.2.1
    have hP := hA.2.2
    have n2 := hI.n60 (j := 2) (by omega)
    have nr := hI.n60 (j := 10 + r) (by omega)
    have e1 : (spApply g r).1 = g (10 + r) + 1 := by
      unfold spApply
      rw [if_neg (by omega)]
      split <;> rfl
    have w := ap_pl hI hP hr (by omega)
    have w2 := w 2 (by omega)
    have wr := w (10 + r) (by omega)
    rw [if_neg (by omega)] at w2
    rw [if_pos rfl] at wr
    refine wp_aload_n dX7_settled_39 rfl ?_
    refine wp_iload_n dX7_settled_40 rfl ?_
    refine sa_i1 hS dX7_settled_41 VX7_doApply lX7_182 (rq0 rfl rfl) (Nat.le_of_ble_eq_true rfl) (C_doApply hS hI.bd (by omega) (by omega) (hI.n60 (by omega)) ⟨(hI.n60 (by omega)).1, hP _ (by omega)⟩ (fun q => apK_b hI (by omega) (by omega)) hI.set.2.2.1 hI.set.2.2.2.2.1 (hI.n0 (by omega)) ?_)
    dsimp only [pushR]
    rw [e1]
    refine wp_bipush dX7_settled_44 rfl ?_
    refine wp_icmp_eq 55 dX7_settled_46 rfl (by unfold r32; omega) (by unfold r32; omega) (fun c => absurd c (by omega)) (fun c => ?_)
    refine wp_iinc (L' := [some (vR 51), some (vI i), some (vI (n + 1)), some (vI r)]) dX7_settled_49 rfl rfl ?_
    refine wp_goto 39 dX7_settled_52 rfl ?_
    rw [show n + ((m + 1 : Nat) : Int) = n + 1 + m by omega] at hQ
    exact ih (n + 1) (B + 500) _ _ (by omega) (aw_st hA hB hr) (by omega) (by omega) hQ
set_option maxHeartbeats 1000000 in
theorem lp_ga {i : Int} {b : Nat × Nat} (hS : SA 7 51 52 h) : ∀ (m : Nat) (r n B : Int) (f g : Int → Int), r + m = 3 → 0 ≤ r → AW B f g → 1000 ≤ B → B + 30000 * m ≤ 8000000 → Wp X kX7_settled 61 [some (vR 51), some (vI i), some (vI (gaL m r n g).1), some (vI 3)] [] (h.set 52 (oI 1014 (gaL m r n g).2)) b Q → Wp X kX7_settled 34 [some (vR 51), some (vI i), some (vI n), some (vI r)] [] (h.set 52 (oI 1014 g)) b Q := by
  intro m
  induction m with
  | zero =>
    intro r n B f g h1 h2 hA hB hBB hQ
    have e : r = 3 := by omega
    subst e
    refine wp_iload_n dX7_settled_34 rfl ?_
    refine wp_iconst dX7_settled_35 ?_
    refine wp_icmp_ge 61 dX7_settled_36 rfl (by unfold r32; omega) (by unfold r32; omega) (fun c => ?_) (fun c => absurd (by omega) c)
    exact hQ
  | succ m ih =>
    intro r n B f g h1 h2 hA hB hBB hQ
    have bb := aw_b (r := r) hA (by omega)
    unfold gaL at hQ
    refine wp_iload_n dX7_settled_34 rfl ?_
    refine wp_iconst dX7_settled_35 ?_
    refine wp_icmp_ge 61 dX7_settled_36 rfl (by unfold r32; omega) (by unfold r32; omega) (fun c => absurd c (by omega)) (fun c => ?_)
    have e : g 2 - g (10 + r) = (((g 2 - g (10 + r)).toNat : Nat) : Int) := by omega
    refine lp_gaR hS (by omega) (g 2 - g (10 + r)).toNat n B f g e hA hB (by omega) ?_
    rw [← e]
    refine wp_iinc (L' := [some (vR 51), some (vI i), some (vI (n + (g 2 - g (10 + r)))), some (vI (r + 1))]) dX7_settled_55 rfl rfl ?_
    refine wp_goto 34 dX7_settled_58 rfl ?_
    have w := aw_R (r := r) (by omega) (g 2 - g (10 + r)).toNat B f g hA hB
    have w2 : AW (B + 30000) (apR r (g 2 - g (10 + r)).toNat f) (spR r (g 2 - g (10 + r)).toNat g) := ⟨w.1, w.2.1.up (by omega), w.2.2⟩
    exact ih (r + 1) _ (B + 30000) _ _ (by omega) (by omega) w2 (by omega) (by omega) hQ
end AC
