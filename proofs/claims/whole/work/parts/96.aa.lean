/-! applying all that is left, the class' side -/
def apR (r : Int) : Nat → (Int → Int) → (Int → Int)
  | 0, f => f
  | m + 1, f => apR r m (wApply f r).2
section AA
variable {X : XS} {h : AH} {Q : Option AV → AH → Prop} {p q : Nat}
def AW (B : Int) (f g : Int → Int) : Prop := Sm f g ∧ IM B g ∧ PM g
theorem aw_st {B r : Int} {f g : Int → Int} (h : AW B f g) (hB : 1000 ≤ B) (hr : 0 ≤ r ∧ r < 3) : AW (B + 500) (wApply f r).2 (spApply g r).2 := by
  have w := sm_apply h.1 h.2.1 hB h.2.2 hr
  exact ⟨w.2.1, w.2.2.1, w.2.2.2⟩
def spR (r : Int) : Nat → (Int → Int) → (Int → Int)
  | 0, g => g
  | m + 1, g => spR r m (spApply g r).2
theorem aw_R {r : Int} (hr : 0 ≤ r ∧ r < 3) : ∀ (m : Nat) (B : Int) (f g : Int → Int), AW B f g → 1000 ≤ B → AW (B + 500 * m) (apR r m f) (spR r m g) := by
  intro m
  induction m with
  | zero => intro B f g h _; exact ⟨h.1, h.2.1.up (by omega), h.2.2⟩
  | succ m ih =>
    intro B f g h hB
    have w := ih (B + 500) _ _ (aw_st h hB hr) (by omega)
    exact ⟨w.1, w.2.1.up (by omega), w.2.2⟩
set_option maxHeartbeats 1000000 in
theorem lp_apR {r : Int} {b : Nat × Nat} (hS : SA 5 p q h) (hr : 0 ≤ r ∧ r < 3) : ∀ (m : Nat) (n B : Int) (f g : Int → Int), m < 1000 → AW B f g → 1000 ≤ B → B + 500 * m ≤ 8000000 → Wp X kX5_applyAll 39 [some (vR p), some (vI (n + m)), some (vI r), some (vI 0)] [] (h.set q (oI 1060 (apR r m f))) b Q → Wp X kX5_applyAll 20 [some (vR p), some (vI n), some (vI r), some (vI m)] [] (h.set q (oI 1060 f)) b Q := by
  intro m
  induction m with
  | zero =>
    intro n B f g hm hA hB hBB hQ
    refine wp_iload_n dX5_applyAll_20 rfl ?_
    refine wp_if_le 39 dX5_applyAll_21 rfl (by unfold r32; omega) (fun c => ?_) (fun c => absurd (by omega) c)
    rw [show n + ((0 : Nat) : Int) = n by omega] at hQ
    exact hQ
  | succ m ih =>
    intro n B f g hm hA hB hBB hQ
    have hI : IW B f := hA.1.iw hA.2.1 hB
    have st := hA.2.1.set
    have t5 : f 5 = g 5 := hA.1.1.T 2 (by omega)
    have t7 : f 7 = g 7 := hA.1.1.T 4 (by omega)
    refine wp_iload_n dX5_applyAll_20 rfl ?_
    refine wp_if_le 39 dX5_applyAll_21 rfl (by unfold r32; omega) (fun c => absurd c (by omega)) (fun c => ?_)
    refine wp_aload_n dX5_applyAll_24 rfl ?_
    refine wp_iload_n dX5_applyAll_25 rfl ?_
    refine sa_i1 hS dX5_applyAll_26 VX5_applyNext lX5_142 (rq0 rfl rfl) (Nat.le_of_ble_eq_true rfl) (C_wapplyNext hS hI (by omega) hr (by omega) (by omega) ?_)
    dsimp only [pushR]
    refine wp_pop dX5_applyAll_29 rfl ?_
    refine wp_iinc (L' := [some (vR p), some (vI (n + 1)), some (vI r), some (vI ((m + 1 : Nat) : Int))]) dX5_applyAll_30 rfl rfl ?_
    refine wp_iinc (L' := [some (vR p), some (vI (n + 1)), some (vI r), some (vI (((m + 1 : Nat) : Int) + -1))]) dX5_applyAll_33 rfl rfl ?_
    refine wp_goto 20 dX5_applyAll_36 rfl ?_
    rw [show ((m + 1 : Nat) : Int) + -1 = m by omega]
    rw [show n + ((m + 1 : Nat) : Int) = n + 1 + m by omega] at hQ
    exact ih (n + 1) (B + 500) _ _ (by omega) (aw_st hA hB hr) (by omega) (by omega) hQ
end AA
