/-! the class' World: copies, applyAll; what acts keep -/
section WD
variable {X : XS} {h : AH} {Q : Option AV → AH → Prop} {p q : Nat} {g : Int → Int} {B : Int}
theorem C_wcopyFrom {r : Nat} {f : Int → Int} (hS : SA 5 p q h) (hr : (h.set q (oI 1060 g))[r]? = some (oI 1060 f)) (hQ : Q none (h.set q (oI 1060 (cpI f g 0 0 1060)))) : Cl X kX5_copyFrom [vR p, vR r] (h.set q (oI 1060 g)) Q := by
  refine cl_of rfl (Nat.le_of_ble_eq_true rfl) rfl ?_
  refine wp_aload_n dX5_copyFrom_0 rfl ?_
  refine wp_iconst dX5_copyFrom_1 ?_
  refine wp_aload_n dX5_copyFrom_2 rfl ?_
  refine sa_get hS dX5_copyFrom_3 fX5_11 ?_
  refine wp_iconst dX5_copyFrom_6 ?_
  refine wp_sipush dX5_copyFrom_7 rfl ?_
  refine wp_copyi dX5_copyFrom_10 aX5_18 hr hS.arr (by decide) (by decide) (by omega) (by omega) (by omega) (by omega) (by omega) (Nat.le_of_ble_eq_true rfl) (Nat.le_of_ble_eq_true rfl) ?_
  rw [List.set_set]
  exact wp_ret dX5_copyFrom_13 rfl hQ
theorem C_wcopyTo {r : Nat} {f : Int → Int} (hS : SA 5 p q h) (hr : (h.set q (oI 1060 g))[r]? = some (oI 1060 f)) (hQ : Q none ((h.set q (oI 1060 g)).set r (oI 1060 (cpI g f 0 0 1060)))) : Cl X kX5_copyTo [vR p, vR r] (h.set q (oI 1060 g)) Q := by
  refine cl_of rfl (Nat.le_of_ble_eq_true rfl) rfl ?_
  refine wp_aload_n dX5_copyTo_0 rfl ?_
  refine sa_get hS dX5_copyTo_1 fX5_11 ?_
  refine wp_iconst dX5_copyTo_4 ?_
  refine wp_aload_n dX5_copyTo_5 rfl ?_
  refine wp_iconst dX5_copyTo_6 ?_
  refine wp_sipush dX5_copyTo_7 rfl ?_
  refine wp_copyi dX5_copyTo_10 aX5_18 hS.arr hr (by decide) (by decide) (by omega) (by omega) (by omega) (by omega) (by omega) (Nat.le_of_ble_eq_true rfl) (Nat.le_of_ble_eq_true rfl) ?_
  exact wp_ret dX5_copyTo_13 rfl hQ
theorem iw_cp {f : Int → Int} (hI : IW B g) (hF : IW B f) : IW B (cpI f g 0 0 1060) := fun j => by
  unfold cpI
  split
  · rw [show (0 : Int) + (j - 0) = j by omega]; exact hF j
  · exact hI j
end WD
