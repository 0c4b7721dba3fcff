/-! the reference: write, apply, cold -/
section MD
variable {X : XS} {h : AH} {Q : Option AV → AH → Prop} {p q : Nat} {g : Int → Int} {B : Int}
theorem bd_del1 {a k : Int} (hB : Bd B g) (h5 : 0 ≤ g 5 ∧ g 5 ≤ 20) (h0 : 0 ≤ g 0) : Bd (B + 20) (del1 g a k) := by
  have q0 := hB 0
  have q24 := hB 24
  have q1 := hB (eA a k + 1)
  unfold del1
  split
  · refine (((hB.up (by omega)).wr ?_).wr (by omega)).wr (by omega)
    split <;> omega
  · exact hB.up (by omega)
theorem bd_del2 {a k : Int} (hB : Bd B g) (h7 : 0 ≤ g 7 ∧ g 7 ≤ 20) (h0 : 0 ≤ g 0) : Bd (B + 20) (del2 g a k) := by
  have q0 := hB 0
  have q25 := hB 25
  unfold del2
  have h3 : Bd (B + 20) (ud (ud (ud g (eA a k) 0) 25 (g 25 + (if g 0 < g (lA a k) then 1 else 0))) (lA a k) 0) := by
    refine (((hB.up (by omega)).wr (by omega)).wr ?_).wr (by omega)
    split <;> omega
  try dsimp only
  split
  · refine h3.wr ?_
    split <;> omega
  · exact h3
/-- what deletes doesn't touch -/
theorem del1_at {a k j : Int} (ha : 0 ≤ a ∧ a < 6) (hk : 0 ≤ k ∧ k < 10) (h1 : j ≠ 24) (h2 : j < 582 ∨ 702 ≤ j) : del1 g a k j = g j := by
  have hb := oA_b ha hk
  unfold del1
  split
  · rw [ud_ne h1, ud_ne (by omega), ud_ne (by omega)]
  · rfl
theorem del2_at {a k j : Int} (ha : 0 ≤ a ∧ a < 6) (hk : 0 ≤ k ∧ k < 10) (h1 : j ≠ 25) (h2 : j < 222 ∨ 942 ≤ j) : del2 g a k j = g j := by
  have hb := eA_b ha hk
  have hb2 := lA_b ha hk
  have hb3 := dA_b ha hk
  unfold del2
  try dsimp only
  split
  · rw [ud_ne (by omega), ud_ne (by omega), ud_ne h1, ud_ne (by omega)]
  · rw [ud_ne (by omega), ud_ne h1, ud_ne (by omega)]
theorem spDel_at {a k j : Int} (ha : 0 ≤ a ∧ a < 6) (hk : 0 ≤ k ∧ k < 10) (h1 : j ≠ 24) (h2 : j ≠ 25) (h3 : j < 222 ∨ 942 ≤ j) : spDel g a k j = g j := by
  unfold spDel
  rw [del2_at ha hk h2 h3, del1_at ha hk h1 (by omega)]
theorem bd_del {a k : Int} (hB : Bd B g) (ha : 0 ≤ a ∧ a < 6) (hk : 0 ≤ k ∧ k < 10) (h5 : 0 ≤ g 5 ∧ g 5 ≤ 20) (h7 : 0 ≤ g 7 ∧ g 7 ≤ 20) (h0 : 0 ≤ g 0) : Bd (B + 40) (spDel g a k) := by
  unfold spDel
  exact (bd_del2 (bd_del1 hB h5 h0) (by rw [del1_at ha hk (by omega) (by omega)]; exact h7) (by rw [del1_at ha hk (by omega) (by omega)]; exact h0)).up (by omega)
def wr1 (g : Int → Int) (c k v : Int) : Int → Int := ud (ud (ud (ud g (36 + 3 * g 2) k) (36 + 3 * g 2 + 1) v) (36 + 3 * g 2 + 2) c) 2 (g 2 + 1)
def wr2 (g : Int → Int) (c k v : Int) : Int → Int := if g (hA c + 0) / 2 = 0 then wr1 g c k v else ud (wr1 g c k v) (942 + 10 * (g (hA c + 0) / 2) + k) (g 2 + 1)
def spWrite (g : Int → Int) (c k v : Int) : Int × (Int → Int) := if g 2 = 60 then (-3, g) else (spDel (wr2 g c k v) (g (hA c + 0)) k 2, spDel (wr2 g c k v) (g (hA c + 0)) k)
set_option maxHeartbeats 2000000 in
theorem C_doWrite {c k v : Int} (hS : SA 7 p q h) (hB : Bd B g) (hBB : B + 2000 ≤ 1000000000) (hc : 0 ≤ c ∧ c < 6) (hk : 0 ≤ k ∧ k < 10) (hv : 0 ≤ v ∧ v ≤ 999) (hG : 0 ≤ g (hA c + 0) ∧ g (hA c + 0) < 6) (hm : 0 ≤ g 2 ∧ g 2 ≤ 60) (hQ : Q (some (vI (spWrite g c k v).1)) (h.set q (oI 1014 (spWrite g c k v).2))) : Cl X kX7_doWrite [vR p, vI c, vI k, vI v] (h.set q (oI 1014 g)) Q := by
  refine cl_of rfl (Nat.le_of_ble_eq_true rfl) rfl ?_
  have hR := hB.r (by omega)
  have hb1 := hA_b hc
  have q2 := hB 2
  refine wp_aload_n dX7_doWrite_0 rfl ?_
  refine sa_get hS dX7_doWrite_1 fX7_9 ?_
  refine wp_iconst dX7_doWrite_4 ?_
  refine sa_ld (v := g 2) hS dX7_doWrite_5 (by decide) (by omega) rfl ?_
  refine wp_bipush dX7_doWrite_6 rfl ?_
  refine wp_icmp_ne 14 dX7_doWrite_8 rfl (by first | assumption | exact hR _ | exact bI_r _ | exact r32_1 hB hBB _ | exact r32_2 hB hBB _ _ | (unfold r32; omega)) ⟨by omega, by omega⟩ (fun c8 => ?_) (fun c8 => ?_)
  · refine wp_aload_n dX7_doWrite_14 rfl ?_
    refine sa_get hS dX7_doWrite_15 fX7_9 ?_
    refine wp_bipush dX7_doWrite_18 rfl ?_
    refine wp_iconst dX7_doWrite_20 ?_
    refine wp_aload_n dX7_doWrite_21 rfl ?_
    refine sa_get hS dX7_doWrite_22 fX7_9 ?_
    refine wp_iconst dX7_doWrite_25 ?_
    refine sa_ld (v := g 2) hS dX7_doWrite_26 (by decide) (by omega) rfl ?_
    refine wp_imul dX7_doWrite_27 ?_
    refine wp_iadd dX7_doWrite_28 ?_
    refine wp_iload_n dX7_doWrite_29 rfl ?_
    refine sa_st hS dX7_doWrite_30 (by decide) (by omega) ?_
    refine wp_aload_n dX7_doWrite_31 rfl ?_
    refine sa_get hS dX7_doWrite_32 fX7_9 ?_
    refine wp_bipush dX7_doWrite_35 rfl ?_
    refine wp_iconst dX7_doWrite_37 ?_
    refine wp_aload_n dX7_doWrite_38 rfl ?_
    refine sa_get hS dX7_doWrite_39 fX7_9 ?_
    refine wp_iconst dX7_doWrite_42 ?_
    refine sa_ld (v := g 2) hS dX7_doWrite_43 (by decide) (by omega) (by rw [ud_ne (by omega)]) ?_
    refine wp_imul dX7_doWrite_44 ?_
    refine wp_iadd dX7_doWrite_45 ?_
    refine wp_iconst dX7_doWrite_46 ?_
    refine wp_iadd dX7_doWrite_47 ?_
    refine wp_iload_n dX7_doWrite_48 rfl ?_
    refine sa_st hS dX7_doWrite_49 (by decide) (by omega) ?_
    refine wp_aload_n dX7_doWrite_50 rfl ?_
    refine sa_get hS dX7_doWrite_51 fX7_9 ?_
    refine wp_bipush dX7_doWrite_54 rfl ?_
    refine wp_iconst dX7_doWrite_56 ?_
    refine wp_aload_n dX7_doWrite_57 rfl ?_
    refine sa_get hS dX7_doWrite_58 fX7_9 ?_
    refine wp_iconst dX7_doWrite_61 ?_
    refine sa_ld (v := g 2) hS dX7_doWrite_62 (by decide) (by omega) (by rw [ud_ne (by omega), ud_ne (by omega)]) ?_
    refine wp_imul dX7_doWrite_63 ?_
    refine wp_iadd dX7_doWrite_64 ?_
    refine wp_iconst dX7_doWrite_65 ?_
    refine wp_iadd dX7_doWrite_66 ?_
    refine wp_iload_n dX7_doWrite_67 rfl ?_
    refine sa_st hS dX7_doWrite_68 (by decide) (by omega) ?_
    refine wp_aload_n dX7_doWrite_69 rfl ?_
    refine sa_get hS dX7_doWrite_70 fX7_9 ?_
    refine wp_iconst dX7_doWrite_73 ?_
    refine wp_dup2 dX7_doWrite_74 rfl rfl ?_
    refine sa_ld (v := g 2) hS dX7_doWrite_75 (by decide) (by omega) (by rw [ud_ne (by omega), ud_ne (by omega), ud_ne (by omega)]) ?_
    refine wp_iconst dX7_doWrite_76 ?_
    refine wp_iadd dX7_doWrite_77 ?_
    refine sa_st hS dX7_doWrite_78 (by decide) (by omega) ?_
    refine wp_aload_n dX7_doWrite_79 rfl ?_
    refine wp_iload_n dX7_doWrite_80 rfl ?_
    refine sa_i1 hS dX7_doWrite_81 VX7_groupOf lX7_109 (rq0 rfl rfl) (Nat.le_of_ble_eq_true rfl) (C_groupOf (v := g (hA c + 0)) hS (by omega) (by rw [ud_ne (by omega), ud_ne (by omega), ud_ne (by omega), ud_ne (by omega)]) ?_)
    dsimp only [pushR]
    refine wp_iconst dX7_doWrite_84 ?_
    refine wp_idivn dX7_doWrite_85 (by first | assumption | exact hR _ | exact bI_r _ | exact r32_1 hB hBB _ | exact r32_2 hB hBB _ _ | (unfold r32; omega)) ⟨by omega, by omega⟩ (by omega) (by omega) ?_
    refine wp_istore (L' := [some (vR p), some (vI c), some (vI k), some (vI v), some (vI ((g (hA c + 0)) / 2))]) dX7_doWrite_86 (by decide) rfl ?_
    refine wp_iload dX7_doWrite_88 rfl ?_
    refine wp_if_eq 115 dX7_doWrite_90 rfl (by first | assumption | exact hR _ | exact bI_r _ | exact r32_1 hB hBB _ | exact r32_2 hB hBB _ _ | (unfold r32; omega)) (fun c90 => ?_) (fun c90 => ?_)
    · refine wp_aload_n dX7_doWrite_115 rfl ?_
      refine wp_aload_n dX7_doWrite_116 rfl ?_
      refine wp_iload_n dX7_doWrite_117 rfl ?_
      refine sa_i1 hS dX7_doWrite_118 VX7_groupOf lX7_109 (rq0 rfl rfl) (Nat.le_of_ble_eq_true rfl) (C_groupOf (v := g (hA c + 0)) hS (by omega) (by rw [ud_ne (by omega), ud_ne (by omega), ud_ne (by omega), ud_ne (by omega)]) ?_)
      dsimp only [pushR]
      refine wp_iload_n dX7_doWrite_121 rfl ?_
      refine sa_i2 hS dX7_doWrite_122 VX7_deletes lX7_144 (rq0 rfl rfl) (Nat.le_of_ble_eq_true rfl) (C_deletes (B := B + 1000) hS (((((hB.up (by omega)).wr (by omega)).wr (by omega)).wr (by omega)).wr (by omega)) (by omega) (by omega) (by omega) ?_)
      dsimp only [pushR]
      refine wp_aload_n dX7_doWrite_125 rfl ?_
      refine sa_get hS dX7_doWrite_126 fX7_9 ?_
      refine wp_iconst dX7_doWrite_129 ?_
      refine sa_ld (v := (spDel (ud (ud (ud (ud g (36 + 3 * g 2) k) (36 + 3 * g 2 + 1) v) (36 + 3 * g 2 + 2) c) 2 (g 2 + 1)) (g (hA c + 0)) k) 2) hS dX7_doWrite_130 (by decide) (by omega) rfl ?_
      exact wp_iret dX7_doWrite_131 rfl (by simp only [spWrite, wr2, wr1] at hQ; (repeat' split at hQ) <;> first | (exfalso; omega) | exact hQ)
    · refine wp_aload_n dX7_doWrite_93 rfl ?_
      refine sa_get hS dX7_doWrite_94 fX7_9 ?_
      refine wp_sipush dX7_doWrite_97 rfl ?_
      refine wp_bipush dX7_doWrite_100 rfl ?_
      refine wp_iload dX7_doWrite_102 rfl ?_
      refine wp_imul dX7_doWrite_104 ?_
      refine wp_iadd dX7_doWrite_105 ?_
      refine wp_iload_n dX7_doWrite_106 rfl ?_
      refine wp_iadd dX7_doWrite_107 ?_
      refine wp_aload_n dX7_doWrite_108 rfl ?_
      refine sa_get hS dX7_doWrite_109 fX7_9 ?_
      refine wp_iconst dX7_doWrite_112 ?_
      refine sa_ld (v := g 2 + 1) hS dX7_doWrite_113 (by decide) (by omega) (by rw [ud_eq]) ?_
      refine sa_st hS dX7_doWrite_114 (by decide) (by omega) ?_
      refine wp_aload_n dX7_doWrite_115 rfl ?_
      refine wp_aload_n dX7_doWrite_116 rfl ?_
      refine wp_iload_n dX7_doWrite_117 rfl ?_
      refine sa_i1 hS dX7_doWrite_118 VX7_groupOf lX7_109 (rq0 rfl rfl) (Nat.le_of_ble_eq_true rfl) (C_groupOf (v := g (hA c + 0)) hS (by omega) (by rw [ud_ne (by omega), ud_ne (by omega), ud_ne (by omega), ud_ne (by omega), ud_ne (by omega)]) ?_)
      dsimp only [pushR]
      refine wp_iload_n dX7_doWrite_121 rfl ?_
      refine sa_i2 hS dX7_doWrite_122 VX7_deletes lX7_144 (rq0 rfl rfl) (Nat.le_of_ble_eq_true rfl) (C_deletes (B := B + 1000) hS ((((((hB.up (by omega)).wr (by omega)).wr (by omega)).wr (by omega)).wr (by omega)).wr (by omega)) (by omega) (by omega) (by omega) ?_)
      dsimp only [pushR]
      refine wp_aload_n dX7_doWrite_125 rfl ?_
      refine sa_get hS dX7_doWrite_126 fX7_9 ?_
      refine wp_iconst dX7_doWrite_129 ?_
      refine sa_ld (v := (spDel (ud (ud (ud (ud (ud g (36 + 3 * g 2) k) (36 + 3 * g 2 + 1) v) (36 + 3 * g 2 + 2) c) 2 (g 2 + 1)) (942 + 10 * ((g (hA c + 0)) / 2) + k) (g 2 + 1)) (g (hA c + 0)) k) 2) hS dX7_doWrite_130 (by decide) (by omega) rfl ?_
      exact wp_iret dX7_doWrite_131 rfl (by simp only [spWrite, wr2, wr1] at hQ; (repeat' split at hQ) <;> first | (exfalso; omega) | exact hQ)
  · refine wp_bipush dX7_doWrite_11 rfl ?_
    exact wp_iret dX7_doWrite_13 rfl (by simp only [spWrite, wr2, wr1] at hQ; (repeat' split at hQ) <;> first | (exfalso; omega) | exact hQ)
def ap1 (g : Int → Int) (r : Int) : Int → Int := ud g (10 + r) (g (10 + r) + 1)
def apK (g : Int → Int) (r : Int) : Int := g (36 + 3 * (g (10 + r) + 1 - 1))
def ap3 (g : Int → Int) (r : Int) : Int → Int := spDel (spDel (ap1 g r) (2 * r) (apK g r)) (2 * r + 1) (apK g r)
def spApply (g : Int → Int) (r : Int) : Int × (Int → Int) :=
  if g (10 + r) = g 2 then (-2, g) else if ap3 g r (942 + 10 * r + apK g r) ≤ g (10 + r) + 1 then (g (10 + r) + 1, ud (ap3 g r) (942 + 10 * r + apK g r) 0) else (g (10 + r) + 1, ap3 g r)
set_option maxHeartbeats 2000000 in
theorem C_doApply {r : Int} (hS : SA 7 p q h) (hB : Bd B g) (hBB : B + 2000 ≤ 1000000000) (hr : 0 ≤ r ∧ r < 3) (hm : 0 ≤ g 2 ∧ g 2 ≤ 60) (hpl : 0 ≤ g (10 + r) ∧ g (10 + r) ≤ g 2) (hkk : g (10 + r) ≠ g 2 → 0 ≤ apK g r ∧ apK g r < 10) (h5 : 0 ≤ g 5 ∧ g 5 ≤ 20) (h7 : 0 ≤ g 7 ∧ g 7 ≤ 20) (h0 : 0 ≤ g 0) (hQ : Q (some (vI (spApply g r).1)) (h.set q (oI 1014 (spApply g r).2))) : Cl X kX7_doApply [vR p, vI r] (h.set q (oI 1014 g)) Q := by
  refine cl_of rfl (Nat.le_of_ble_eq_true rfl) rfl ?_
  have hR := hB.r (by omega)
  have q2 := hB 2
  have q3 := hB (10 + r)
  refine wp_aload_n dX7_doApply_0 rfl ?_
  refine sa_get hS dX7_doApply_1 fX7_9 ?_
  refine wp_bipush dX7_doApply_4 rfl ?_
  refine wp_iload_n dX7_doApply_6 rfl ?_
  refine wp_iadd dX7_doApply_7 ?_
  refine sa_ld (v := g (10 + r)) hS dX7_doApply_8 (by decide) (by omega) rfl ?_
  refine wp_aload_n dX7_doApply_9 rfl ?_
  refine sa_get hS dX7_doApply_10 fX7_9 ?_
  refine wp_iconst dX7_doApply_13 ?_
  refine sa_ld (v := g 2) hS dX7_doApply_14 (by decide) (by omega) rfl ?_
  refine wp_icmp_ne 21 dX7_doApply_15 rfl (by first | exact hR _ | exact (hB3.r (by omega)) _ | (unfold r32; omega)) (by first | exact hR _ | exact (hB3.r (by omega)) _ | (unfold r32; omega)) (fun c15 => ?_) (fun c15 => ?_)
  · refine wp_aload_n dX7_doApply_21 rfl ?_
    refine sa_get hS dX7_doApply_22 fX7_9 ?_
    refine wp_bipush dX7_doApply_25 rfl ?_
    refine wp_iload_n dX7_doApply_27 rfl ?_
    refine wp_iadd dX7_doApply_28 ?_
    refine wp_dup2 dX7_doApply_29 rfl rfl ?_
    refine sa_ld (v := g (10 + r)) hS dX7_doApply_30 (by decide) (by omega) rfl ?_
    refine wp_iconst dX7_doApply_31 ?_
    refine wp_iadd dX7_doApply_32 ?_
    refine sa_st hS dX7_doApply_33 (by decide) (by omega) ?_
    refine wp_aload_n dX7_doApply_34 rfl ?_
    refine sa_get hS dX7_doApply_35 fX7_9 ?_
    refine wp_bipush dX7_doApply_38 rfl ?_
    refine wp_iload_n dX7_doApply_40 rfl ?_
    refine wp_iadd dX7_doApply_41 ?_
    refine sa_ld (v := g (10 + r) + 1) hS dX7_doApply_42 (by decide) (by omega) (by rw [ud_eq]) ?_
    refine wp_istore_n (L' := [some (vR p), some (vI r), some (vI (g (10 + r) + 1)), none]) dX7_doApply_43 (by decide) rfl ?_
    refine wp_aload_n dX7_doApply_44 rfl ?_
    refine wp_iload_n dX7_doApply_45 rfl ?_
    refine sa_i1 hS dX7_doApply_46 VX7_keyOf lX7_102 (rq0 rfl rfl) (Nat.le_of_ble_eq_true rfl) (C_keyOf (v := g (36 + 3 * (g (10 + r) + 1 - 1))) hS (by omega) (by rw [ud_ne (by omega)]) ?_)
    dsimp only [pushR]
    have hkx := hkk c15
    have hB2 := bd_del (a := 2 * r) (k := apK g r) ((hB.up (show B ≤ B + 1000 by omega)).wr (i := 10 + r) (x := g (10 + r) + 1) (by omega)) (by omega) hkx (by rw [ud_ne (by omega)]; exact h5) (by rw [ud_ne (by omega)]; exact h7) (by rw [ud_ne (by omega)]; exact h0)
    have hB3 := bd_del (a := 2 * r + 1) (k := apK g r) hB2 (by omega) hkx (by rw [spDel_at (by omega) hkx (by omega) (by omega) (by omega), ud_ne (by omega)]; exact h5) (by rw [spDel_at (by omega) hkx (by omega) (by omega) (by omega), ud_ne (by omega)]; exact h7) (by rw [spDel_at (by omega) hkx (by omega) (by omega) (by omega), ud_ne (by omega)]; exact h0)
    unfold apK at hkx hB2 hB3
    refine wp_istore_n (L' := [some (vR p), some (vI r), some (vI (g (10 + r) + 1)), some (vI (g (36 + 3 * (g (10 + r) + 1 - 1))))]) dX7_doApply_49 (by decide) rfl ?_
    refine wp_aload_n dX7_doApply_50 rfl ?_
    refine wp_iconst dX7_doApply_51 ?_
    refine wp_iload_n dX7_doApply_52 rfl ?_
    refine wp_imul dX7_doApply_53 ?_
    refine wp_iload_n dX7_doApply_54 rfl ?_
    refine sa_i2 hS dX7_doApply_55 VX7_deletes lX7_144 (rq0 rfl rfl) (Nat.le_of_ble_eq_true rfl) (C_deletes (B := B + 1000) hS ((hB.up (by omega)).wr (by omega)) (by omega) (by omega) (by omega) ?_)
    dsimp only [pushR]
    refine wp_aload_n dX7_doApply_58 rfl ?_
    refine wp_iconst dX7_doApply_59 ?_
    refine wp_iload_n dX7_doApply_60 rfl ?_
    refine wp_imul dX7_doApply_61 ?_
    refine wp_iconst dX7_doApply_62 ?_
    refine wp_iadd dX7_doApply_63 ?_
    refine wp_iload_n dX7_doApply_64 rfl ?_
    refine sa_i2 hS dX7_doApply_65 VX7_deletes lX7_144 (rq0 rfl rfl) (Nat.le_of_ble_eq_true rfl) (C_deletes (B := B + 1000 + 40) hS hB2 (by omega) (by omega) (by omega) ?_)
    dsimp only [pushR]
    refine wp_aload_n dX7_doApply_68 rfl ?_
    refine sa_get hS dX7_doApply_69 fX7_9 ?_
    refine wp_sipush dX7_doApply_72 rfl ?_
    refine wp_bipush dX7_doApply_75 rfl ?_
    refine wp_iload_n dX7_doApply_77 rfl ?_
    refine wp_imul dX7_doApply_78 ?_
    refine wp_iadd dX7_doApply_79 ?_
    refine wp_iload_n dX7_doApply_80 rfl ?_
    refine wp_iadd dX7_doApply_81 ?_
    refine sa_ld (v := (spDel (spDel (ud g (10 + r) (g (10 + r) + 1)) (2 * r) (g (36 + 3 * (g (10 + r) + 1 - 1)))) (2 * r + 1) (g (36 + 3 * (g (10 + r) + 1 - 1)))) (942 + 10 * r + g (36 + 3 * (g (10 + r) + 1 - 1)))) hS dX7_doApply_82 (by decide) (by omega) rfl ?_
    refine wp_iload_n dX7_doApply_83 rfl ?_
    refine wp_icmp_gt 103 dX7_doApply_84 rfl (by first | exact hR _ | exact (hB3.r (by omega)) _ | (unfold r32; omega)) (by first | exact hR _ | exact (hB3.r (by omega)) _ | (unfold r32; omega)) (fun c84 => ?_) (fun c84 => ?_)
    · refine wp_iload_n dX7_doApply_103 rfl ?_
      exact wp_iret dX7_doApply_104 rfl (by first | (have e : spApply g r = _ := if_pos c15; rw [e] at hQ; exact hQ) | (have e : spApply g r = _ := (if_neg c15).trans (if_pos (Int.not_lt.mp c84)); rw [e] at hQ; exact hQ) | (have e : spApply g r = _ := (if_neg c15).trans (if_neg (Int.not_le.mpr c84)); rw [e] at hQ; exact hQ))
    · refine wp_aload_n dX7_doApply_87 rfl ?_
      refine sa_get hS dX7_doApply_88 fX7_9 ?_
      refine wp_sipush dX7_doApply_91 rfl ?_
      refine wp_bipush dX7_doApply_94 rfl ?_
      refine wp_iload_n dX7_doApply_96 rfl ?_
      refine wp_imul dX7_doApply_97 ?_
      refine wp_iadd dX7_doApply_98 ?_
      refine wp_iload_n dX7_doApply_99 rfl ?_
      refine wp_iadd dX7_doApply_100 ?_
      refine wp_iconst dX7_doApply_101 ?_
      refine sa_st hS dX7_doApply_102 (by decide) (by omega) ?_
      refine wp_iload_n dX7_doApply_103 rfl ?_
      exact wp_iret dX7_doApply_104 rfl (by first | (have e : spApply g r = _ := if_pos c15; rw [e] at hQ; exact hQ) | (have e : spApply g r = _ := (if_neg c15).trans (if_pos (Int.not_lt.mp c84)); rw [e] at hQ; exact hQ) | (have e : spApply g r = _ := (if_neg c15).trans (if_neg (Int.not_le.mpr c84)); rw [e] at hQ; exact hQ))
  · refine wp_bipush dX7_doApply_18 rfl ?_
    exact wp_iret dX7_doApply_20 rfl (by first | (have e : spApply g r = _ := if_pos c15; rw [e] at hQ; exact hQ) | (have e : spApply g r = _ := (if_neg c15).trans (if_pos (Int.not_lt.mp c84)); rw [e] at hQ; exact hQ) | (have e : spApply g r = _ := (if_neg c15).trans (if_neg (Int.not_le.mpr c84)); rw [e] at hQ; exact hQ))
def coldL (a v : Int) : Nat → Int → (Int → Int) → (Int → Int)
  | 0, _, g => g
  | m + 1, k, g => if v = 1 then coldL a v m (k + 1) (ud (ud (ud (ud g (dA a k) 0) (eA a k) 0) (oA a k) 0) (lA a k) 0) else coldL a v m (k + 1) (ud g (dA a k) 0)
def spCold (g : Int → Int) (a v : Int) : Int → Int := if g (216 + a) = v then g else coldL a v 10 0 (ud g (216 + a) v)
set_option maxHeartbeats 2000000 in
theorem lp_cold {a v : Int} {b : Nat × Nat} (hS : SA 7 p q h) (ha : 0 ≤ a ∧ a < 6) (hv : 0 ≤ v ∧ v ≤ 1) : ∀ (m : Nat) (k : Int) (g : Int → Int), k + m = 10 → 0 ≤ k → Q none (h.set q (oI 1014 (coldL a v m k g))) → Wp X kX7_doCold 28 [some (vR p), some (vI a), some (vI v), some (vI k)] [] (h.set q (oI 1014 g)) b Q := by
  intro m
  induction m with
  | zero =>
    intro k g h1 h3 hQ
    refine wp_iload_n dX7_doCold_28 rfl ?_
    refine wp_bipush dX7_doCold_29 rfl ?_
    refine wp_icmp_ge 89 dX7_doCold_31 rfl ⟨by omega, by omega⟩ ⟨by omega, by omega⟩ (fun c7 => ?_) (fun c7 => absurd (by omega) c7)
    exact wp_ret dX7_doCold_89 rfl hQ
  | succ m ih =>
    intro k g h1 h3 hQ
    have hk : 0 ≤ k ∧ k < 10 := ⟨h3, by omega⟩
    have hb1 := eA_b ha hk
    have hb2 := oA_b ha hk
    have hb3 := lA_b ha hk
    have hb4 := dA_b ha hk
    refine wp_iload_n dX7_doCold_28 rfl ?_
    refine wp_bipush dX7_doCold_29 rfl ?_
    refine wp_icmp_ge 89 dX7_doCold_31 rfl (by first | assumption | exact hR _ | exact bI_r _ | exact r32_1 hB hBB _ | exact r32_2 hB hBB _ _ | (unfold r32; omega)) ⟨by omega, by omega⟩ (fun c31 => ?_) (fun c31 => ?_)
    · exact absurd c31 (by omega)
    · refine wp_aload_n dX7_doCold_34 rfl ?_
      refine sa_get hS dX7_doCold_35 fX7_9 ?_
      refine wp_iload_n dX7_doCold_38 rfl ?_
      refine wp_iload_n dX7_doCold_39 rfl ?_
      refine wp_is2 dX7_doCold_40 SX7_holdAt lX7_137 (rq0 rfl rfl) (Nat.le_of_ble_eq_true rfl) (C_holdAt ?_)
      dsimp only [pushR]
      refine wp_iconst dX7_doCold_43 ?_
      refine sa_st hS dX7_doCold_44 (by decide) (by omega) ?_
      refine wp_iload_n dX7_doCold_45 rfl ?_
      refine wp_iconst dX7_doCold_46 ?_
      refine wp_icmp_ne 83 dX7_doCold_47 rfl (by first | assumption | exact hR _ | exact bI_r _ | exact r32_1 hB hBB _ | exact r32_2 hB hBB _ _ | (unfold r32; omega)) ⟨by omega, by omega⟩ (fun c47 => ?_) (fun c47 => ?_)
      · refine wp_iinc (L' := [some (vR p), some (vI a), some (vI v), some (vI (k + 1))]) dX7_doCold_83 rfl rfl ?_
        refine wp_goto 28 dX7_doCold_86 rfl ?_
        exact ih _ _ (by omega) (by omega) (by simp only [coldL] at hQ; (repeat' split at hQ) <;> first | (exfalso; omega) | exact hQ)
      · refine wp_aload_n dX7_doCold_50 rfl ?_
        refine sa_get hS dX7_doCold_51 fX7_9 ?_
        refine wp_iload_n dX7_doCold_54 rfl ?_
        refine wp_iload_n dX7_doCold_55 rfl ?_
        refine wp_is2 dX7_doCold_56 SX7_entryAt lX7_112 (rq0 rfl rfl) (Nat.le_of_ble_eq_true rfl) (C_entryAt ?_)
        dsimp only [pushR]
        refine wp_iconst dX7_doCold_59 ?_
        refine sa_st hS dX7_doCold_60 (by decide) (by omega) ?_
        refine wp_aload_n dX7_doCold_61 rfl ?_
        refine sa_get hS dX7_doCold_62 fX7_9 ?_
        refine wp_iload_n dX7_doCold_65 rfl ?_
        refine wp_iload_n dX7_doCold_66 rfl ?_
        refine wp_is2 dX7_doCold_67 SX7_oldAt lX7_122 (rq0 rfl rfl) (Nat.le_of_ble_eq_true rfl) (C_oldAt ?_)
        dsimp only [pushR]
        refine wp_iconst dX7_doCold_70 ?_
        refine sa_st hS dX7_doCold_71 (by decide) (by omega) ?_
        refine wp_aload_n dX7_doCold_72 rfl ?_
        refine sa_get hS dX7_doCold_73 fX7_9 ?_
        refine wp_iload_n dX7_doCold_76 rfl ?_
        refine wp_iload_n dX7_doCold_77 rfl ?_
        refine wp_is2 dX7_doCold_78 SX7_leaseAt lX7_119 (rq0 rfl rfl) (Nat.le_of_ble_eq_true rfl) (C_leaseAt ?_)
        dsimp only [pushR]
        refine wp_iconst dX7_doCold_81 ?_
        refine sa_st hS dX7_doCold_82 (by decide) (by omega) ?_
        refine wp_iinc (L' := [some (vR p), some (vI a), some (vI v), some (vI (k + 1))]) dX7_doCold_83 rfl rfl ?_
        refine wp_goto 28 dX7_doCold_86 rfl ?_
        exact ih _ _ (by omega) (by omega) (by simp only [coldL] at hQ; (repeat' split at hQ) <;> first | (exfalso; omega) | exact hQ)
set_option maxHeartbeats 2000000 in
theorem C_doCold {a v : Int} (hS : SA 7 p q h) (hR : ∀ j, r32 (g j)) (ha : 0 ≤ a ∧ a < 6) (hv : 0 ≤ v ∧ v ≤ 1) (hQ : Q none (h.set q (oI 1014 (spCold g a v)))) : Cl X kX7_doCold [vR p, vI a, vI v] (h.set q (oI 1014 g)) Q := by
  refine cl_of rfl (Nat.le_of_ble_eq_true rfl) rfl ?_
  refine wp_aload_n dX7_doCold_0 rfl ?_
  refine sa_get hS dX7_doCold_1 fX7_9 ?_
  refine wp_sipush dX7_doCold_4 rfl ?_
  refine wp_iload_n dX7_doCold_7 rfl ?_
  refine wp_iadd dX7_doCold_8 ?_
  refine sa_ld (v := g (216 + a)) hS dX7_doCold_9 (by decide) (by omega) rfl ?_
  refine wp_iload_n dX7_doCold_10 rfl ?_
  refine wp_icmp_ne 15 dX7_doCold_11 rfl (by first | assumption | exact hR _ | exact bI_r _ | exact r32_1 hB hBB _ | exact r32_2 hB hBB _ _ | (unfold r32; omega)) (by first | assumption | exact hR _ | exact bI_r _ | exact r32_1 hB hBB _ | exact r32_2 hB hBB _ _ | (unfold r32; omega)) (fun c11 => ?_) (fun c11 => ?_)
  · refine wp_aload_n dX7_doCold_15 rfl ?_
    refine sa_get hS dX7_doCold_16 fX7_9 ?_
    refine wp_sipush dX7_doCold_19 rfl ?_
    refine wp_iload_n dX7_doCold_22 rfl ?_
    refine wp_iadd dX7_doCold_23 ?_
    refine wp_iload_n dX7_doCold_24 rfl ?_
    refine sa_st hS dX7_doCold_25 (by decide) (by omega) ?_
    refine wp_iconst dX7_doCold_26 ?_
    refine wp_istore_n (L' := [some (vR p), some (vI a), some (vI v), some (vI 0)]) dX7_doCold_27 (by decide) rfl ?_
    exact lp_cold hS ha hv 10 0 _ rfl (Int.le_refl 0) (by simp only [spCold] at hQ; (repeat' split at hQ) <;> first | (exfalso; omega) | exact hQ)
  · exact wp_ret dX7_doCold_14 rfl (by simp only [spCold] at hQ; (repeat' split at hQ) <;> first | (exfalso; omega) | exact hQ)
end MD
