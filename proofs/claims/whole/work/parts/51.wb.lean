/-! the class' World: its acts -/
section WB
variable {X : XS} {h : AH} {Q : Option AV → AH → Prop} {p q : Nat} {g : Int → Int} {B : Int}
theorem xo_1 {a : Int} (h : 0 ≤ a ∧ a < 6) : Int32.ofInt a ^^^ Int32.ofInt 1 = Int32.ofInt (besO a) := by
  rcases (by omega : a = 0 ∨ a = 1 ∨ a = 2 ∨ a = 3 ∨ a = 4 ∨ a = 5) with rfl | rfl | rfl | rfl | rfl | rfl <;> decide
theorem besO_b {a : Int} (h : 0 ≤ a ∧ a < 6) : 0 ≤ besO a ∧ besO a < 6 := by unfold besO; split <;> omega
theorem ru {f : Int → Int} {i x : Int} (hR : ∀ j, r32 (f j)) (hx : r32 x) : ∀ j, r32 (ud f i x j) := fun j => by unfold ud; split; exact hx; exact hR j
set_option maxHeartbeats 1000000 in
theorem C_wuseEntry {s v0 v1 : Int} (hS : SA 5 p q h) (hs : 340 ≤ s ∧ s + 12 ≤ 1060) (hv0 : g 0 = v0) (hv1 : g (s + 4) = v1) (hQ : Q none (h.set q (oI 1060 (ud (ud g (s + 3) v0) (s + 4) (v1 + 1))))) : Cl X kX5_useEntry [vR p, vI s] (h.set q (oI 1060 g)) Q := by
  refine cl_of rfl (Nat.le_of_ble_eq_true rfl) rfl ?_
  subst hv0
  subst hv1
  refine wp_aload_n dX5_useEntry_0 rfl ?_
  refine sa_get hS dX5_useEntry_1 fX5_11 ?_
  refine wp_iload_n dX5_useEntry_4 rfl ?_
  refine wp_iconst dX5_useEntry_5 ?_
  refine wp_iadd dX5_useEntry_6 ?_
  refine wp_aload_n dX5_useEntry_7 rfl ?_
  refine sa_i0 hS dX5_useEntry_8 VX5_now lX5_91 (rq0 rfl rfl) (Nat.le_of_ble_eq_true rfl) (C_wnow (v := g 0) hS rfl ?_)
  dsimp only [pushR]
  refine sa_st hS dX5_useEntry_11 (by decide) (by omega) ?_
  refine wp_aload_n dX5_useEntry_12 rfl ?_
  refine sa_get hS dX5_useEntry_13 fX5_11 ?_
  refine wp_iload_n dX5_useEntry_16 rfl ?_
  refine wp_iconst dX5_useEntry_17 ?_
  refine wp_iadd dX5_useEntry_18 ?_
  refine wp_dup2 dX5_useEntry_19 rfl rfl ?_
  refine sa_ld (v := g (s + 4)) hS dX5_useEntry_20 (by decide) (by omega) (by rw [ud_ne (by omega)] <;> rfl) ?_
  refine wp_iconst dX5_useEntry_21 ?_
  refine wp_iadd dX5_useEntry_22 ?_
  refine sa_st hS dX5_useEntry_23 (by decide) (by omega) ?_
  exact wp_ret dX5_useEntry_24 rfl hQ
set_option maxHeartbeats 1000000 in
theorem C_wgiveLease {s c v0 v1 v2 : Int} (hS : SA 5 p q h) (hs : 340 ≤ s ∧ s + 12 ≤ 1060) (hv0 : g 2 = v0) (hv1 : g 0 = v1) (hv2 : g 6 = v2) (hQ : Q (some (vI (v0 + 1))) (h.set q (oI 1060 (ud (ud (ud (ud g 2 (v0 + 1)) (s + 8) c) (s + 9) (v0 + 1)) (s + 10) (v1 + v2))))) : Cl X kX5_giveLease [vR p, vI s, vI c] (h.set q (oI 1060 g)) Q := by
  refine cl_of rfl (Nat.le_of_ble_eq_true rfl) rfl ?_
  subst hv0
  subst hv1
  subst hv2
  refine wp_aload_n dX5_giveLease_0 rfl ?_
  refine sa_get hS dX5_giveLease_1 fX5_11 ?_
  refine wp_iconst dX5_giveLease_4 ?_
  refine wp_dup2 dX5_giveLease_5 rfl rfl ?_
  refine sa_ld (v := g 2) hS dX5_giveLease_6 (by decide) (by omega) rfl ?_
  refine wp_iconst dX5_giveLease_7 ?_
  refine wp_iadd dX5_giveLease_8 ?_
  refine sa_st hS dX5_giveLease_9 (by decide) (by omega) ?_
  refine wp_aload_n dX5_giveLease_10 rfl ?_
  refine sa_get hS dX5_giveLease_11 fX5_11 ?_
  refine wp_iload_n dX5_giveLease_14 rfl ?_
  refine wp_bipush dX5_giveLease_15 rfl ?_
  refine wp_iadd dX5_giveLease_17 ?_
  refine wp_iload_n dX5_giveLease_18 rfl ?_
  refine sa_st hS dX5_giveLease_19 (by decide) (by omega) ?_
  refine wp_aload_n dX5_giveLease_20 rfl ?_
  refine sa_get hS dX5_giveLease_21 fX5_11 ?_
  refine wp_iload_n dX5_giveLease_24 rfl ?_
  refine wp_bipush dX5_giveLease_25 rfl ?_
  refine wp_iadd dX5_giveLease_27 ?_
  refine wp_aload_n dX5_giveLease_28 rfl ?_
  refine sa_get hS dX5_giveLease_29 fX5_11 ?_
  refine wp_iconst dX5_giveLease_32 ?_
  refine sa_ld (v := g 2 + 1) hS dX5_giveLease_33 (by decide) (by omega) (by rw [ud_ne (by omega), ud_eq] <;> rfl) ?_
  refine sa_st hS dX5_giveLease_34 (by decide) (by omega) ?_
  refine wp_aload_n dX5_giveLease_35 rfl ?_
  refine sa_get hS dX5_giveLease_36 fX5_11 ?_
  refine wp_iload_n dX5_giveLease_39 rfl ?_
  refine wp_bipush dX5_giveLease_40 rfl ?_
  refine wp_iadd dX5_giveLease_42 ?_
  refine wp_aload_n dX5_giveLease_43 rfl ?_
  refine sa_i0 hS dX5_giveLease_44 VX5_now lX5_91 (rq0 rfl rfl) (Nat.le_of_ble_eq_true rfl) (C_wnow (v := g 0) hS (by rw [ud_ne (by omega), ud_ne (by omega), ud_ne (by omega)] <;> rfl) ?_)
  dsimp only [pushR]
  refine wp_aload_n dX5_giveLease_47 rfl ?_
  refine wp_iconst dX5_giveLease_48 ?_
  refine sa_i1 hS dX5_giveLease_49 VX5_settingOf lX5_78 (rq0 rfl rfl) (Nat.le_of_ble_eq_true rfl) (C_wsettingOf (v := g 6) hS (by omega) (by rw [ud_ne (by omega), ud_ne (by omega), ud_ne (by omega)] <;> rfl) ?_)
  dsimp only [pushR]
  refine wp_iadd dX5_giveLease_52 ?_
  refine sa_st hS dX5_giveLease_53 (by decide) (by omega) ?_
  refine wp_aload_n dX5_giveLease_54 rfl ?_
  refine sa_get hS dX5_giveLease_55 fX5_11 ?_
  refine wp_iconst dX5_giveLease_58 ?_
  refine sa_ld (v := g 2 + 1) hS dX5_giveLease_59 (by decide) (by omega) (by rw [ud_ne (by omega), ud_ne (by omega), ud_ne (by omega), ud_eq] <;> rfl) ?_
  exact wp_iret dX5_giveLease_60 rfl hQ
set_option maxHeartbeats 1000000 in
theorem C_wtakeHand {c k t : Int} (hS : SA 5 p q h) (hc : 0 ≤ c ∧ c < 6)  (hQ : Q none (h.set q (oI 1060 (ud (ud (ud (ud g (cA c + 7) 1) (cA c + 1) k) (cA c + 2) t) (cA c + 3) 0)))) : Cl X kX5_takeHand [vR p, vI c, vI k, vI t] (h.set q (oI 1060 g)) Q := by
  refine cl_of rfl (Nat.le_of_ble_eq_true rfl) rfl ?_
  have hb1 := cA_b hc
  refine wp_iload_n dX5_takeHand_0 rfl ?_
  refine wp_is1 dX5_takeHand_1 SX5_handAt lX5_24 (rq0 rfl rfl) (Nat.le_of_ble_eq_true rfl) (C_whandAt ?_)
  dsimp only [pushR]
  refine wp_istore (L' := [some (vR p), some (vI c), some (vI k), some (vI t), some (vI (cA c))]) dX5_takeHand_4 (by decide) rfl ?_
  refine wp_aload_n dX5_takeHand_6 rfl ?_
  refine sa_get hS dX5_takeHand_7 fX5_11 ?_
  refine wp_iload dX5_takeHand_10 rfl ?_
  refine wp_bipush dX5_takeHand_12 rfl ?_
  refine wp_iadd dX5_takeHand_14 ?_
  refine wp_iconst dX5_takeHand_15 ?_
  refine sa_st hS dX5_takeHand_16 (by decide) (by omega) ?_
  refine wp_aload_n dX5_takeHand_17 rfl ?_
  refine sa_get hS dX5_takeHand_18 fX5_11 ?_
  refine wp_iload dX5_takeHand_21 rfl ?_
  refine wp_iconst dX5_takeHand_23 ?_
  refine wp_iadd dX5_takeHand_24 ?_
  refine wp_iload_n dX5_takeHand_25 rfl ?_
  refine sa_st hS dX5_takeHand_26 (by decide) (by omega) ?_
  refine wp_aload_n dX5_takeHand_27 rfl ?_
  refine sa_get hS dX5_takeHand_28 fX5_11 ?_
  refine wp_iload dX5_takeHand_31 rfl ?_
  refine wp_iconst dX5_takeHand_33 ?_
  refine wp_iadd dX5_takeHand_34 ?_
  refine wp_iload_n dX5_takeHand_35 rfl ?_
  refine sa_st hS dX5_takeHand_36 (by decide) (by omega) ?_
  refine wp_aload_n dX5_takeHand_37 rfl ?_
  refine sa_get hS dX5_takeHand_38 fX5_11 ?_
  refine wp_iload dX5_takeHand_41 rfl ?_
  refine wp_iconst dX5_takeHand_43 ?_
  refine wp_iadd dX5_takeHand_44 ?_
  refine wp_iconst dX5_takeHand_45 ?_
  refine sa_st hS dX5_takeHand_46 (by decide) (by omega) ?_
  exact wp_ret dX5_takeHand_47 rfl hQ
set_option maxHeartbeats 1000000 in
theorem C_wendHand {c : Int} (hS : SA 5 p q h) (hc : 0 ≤ c ∧ c < 6)  (hQ : Q none (h.set q (oI 1060 (ud (ud g (cA c + 7) 0) (cA c + 3) 0)))) : Cl X kX5_endHand [vR p, vI c] (h.set q (oI 1060 g)) Q := by
  refine cl_of rfl (Nat.le_of_ble_eq_true rfl) rfl ?_
  have hb1 := cA_b hc
  refine wp_iload_n dX5_endHand_0 rfl ?_
  refine wp_is1 dX5_endHand_1 SX5_handAt lX5_24 (rq0 rfl rfl) (Nat.le_of_ble_eq_true rfl) (C_whandAt ?_)
  dsimp only [pushR]
  refine wp_istore_n (L' := [some (vR p), some (vI c), some (vI (cA c))]) dX5_endHand_4 (by decide) rfl ?_
  refine wp_aload_n dX5_endHand_5 rfl ?_
  refine sa_get hS dX5_endHand_6 fX5_11 ?_
  refine wp_iload_n dX5_endHand_9 rfl ?_
  refine wp_bipush dX5_endHand_10 rfl ?_
  refine wp_iadd dX5_endHand_12 ?_
  refine wp_iconst dX5_endHand_13 ?_
  refine sa_st hS dX5_endHand_14 (by decide) (by omega) ?_
  refine wp_aload_n dX5_endHand_15 rfl ?_
  refine sa_get hS dX5_endHand_16 fX5_11 ?_
  refine wp_iload_n dX5_endHand_19 rfl ?_
  refine wp_iconst dX5_endHand_20 ?_
  refine wp_iadd dX5_endHand_21 ?_
  refine wp_iconst dX5_endHand_22 ?_
  refine sa_st hS dX5_endHand_23 (by decide) (by omega) ?_
  exact wp_ret dX5_endHand_24 rfl hQ
set_option maxHeartbeats 1000000 in
theorem C_wkeepInHand {c v n z : Int} (hS : SA 5 p q h) (hc : 292 ≤ c ∧ c + 8 ≤ 340)  (hQ : Q (some (vI v)) (h.set q (oI 1060 (ud (ud (ud (ud g (c + 3) 1) (c + 4) v) (c + 5) n) (c + 6) z)))) : Cl X kX5_keepInHand [vR p, vI c, vI v, vI n, vI z] (h.set q (oI 1060 g)) Q := by
  refine cl_of rfl (Nat.le_of_ble_eq_true rfl) rfl ?_
  refine wp_aload_n dX5_keepInHand_0 rfl ?_
  refine sa_get hS dX5_keepInHand_1 fX5_11 ?_
  refine wp_iload_n dX5_keepInHand_4 rfl ?_
  refine wp_iconst dX5_keepInHand_5 ?_
  refine wp_iadd dX5_keepInHand_6 ?_
  refine wp_iconst dX5_keepInHand_7 ?_
  refine sa_st hS dX5_keepInHand_8 (by decide) (by omega) ?_
  refine wp_aload_n dX5_keepInHand_9 rfl ?_
  refine sa_get hS dX5_keepInHand_10 fX5_11 ?_
  refine wp_iload_n dX5_keepInHand_13 rfl ?_
  refine wp_iconst dX5_keepInHand_14 ?_
  refine wp_iadd dX5_keepInHand_15 ?_
  refine wp_iload_n dX5_keepInHand_16 rfl ?_
  refine sa_st hS dX5_keepInHand_17 (by decide) (by omega) ?_
  refine wp_aload_n dX5_keepInHand_18 rfl ?_
  refine sa_get hS dX5_keepInHand_19 fX5_11 ?_
  refine wp_iload_n dX5_keepInHand_22 rfl ?_
  refine wp_iconst dX5_keepInHand_23 ?_
  refine wp_iadd dX5_keepInHand_24 ?_
  refine wp_iload_n dX5_keepInHand_25 rfl ?_
  refine sa_st hS dX5_keepInHand_26 (by decide) (by omega) ?_
  refine wp_aload_n dX5_keepInHand_27 rfl ?_
  refine sa_get hS dX5_keepInHand_28 fX5_11 ?_
  refine wp_iload_n dX5_keepInHand_31 rfl ?_
  refine wp_bipush dX5_keepInHand_32 rfl ?_
  refine wp_iadd dX5_keepInHand_34 ?_
  refine wp_iload dX5_keepInHand_35 rfl ?_
  refine sa_st hS dX5_keepInHand_37 (by decide) (by omega) ?_
  refine wp_iload_n dX5_keepInHand_38 rfl ?_
  exact wp_iret dX5_keepInHand_39 rfl hQ
set_option maxHeartbeats 1000000 in
theorem C_wendIn {n v0 : Int} (hS : SA 5 p q h)  (hv0 : g 0 = v0) (hQ : Q (some (vI (v0 + n))) (h.set q (oI 1060 g))) : Cl X kX5_endIn [vR p, vI n] (h.set q (oI 1060 g)) Q := by
  refine cl_of rfl (Nat.le_of_ble_eq_true rfl) rfl ?_
  subst hv0
  refine wp_aload_n dX5_endIn_0 rfl ?_
  refine sa_i0 hS dX5_endIn_1 VX5_now lX5_91 (rq0 rfl rfl) (Nat.le_of_ble_eq_true rfl) (C_wnow (v := g 0) hS rfl ?_)
  dsimp only [pushR]
  refine wp_iload_n dX5_endIn_4 rfl ?_
  refine wp_iadd dX5_endIn_5 ?_
  exact wp_iret dX5_endIn_6 rfl hQ
set_option maxHeartbeats 1000000 in
theorem C_wpass {n v0 : Int} (hS : SA 5 p q h)  (hv0 : g 0 = v0) (hQ : Q (some (vI (v0 + n))) (h.set q (oI 1060 (ud g 0 (v0 + n))))) : Cl X kX5_pass [vR p, vI n] (h.set q (oI 1060 g)) Q := by
  refine cl_of rfl (Nat.le_of_ble_eq_true rfl) rfl ?_
  subst hv0
  refine wp_aload_n dX5_pass_0 rfl ?_
  refine sa_get hS dX5_pass_1 fX5_11 ?_
  refine wp_iconst dX5_pass_4 ?_
  refine wp_dup2 dX5_pass_5 rfl rfl ?_
  refine sa_ld (v := g 0) hS dX5_pass_6 (by decide) (by omega) rfl ?_
  refine wp_iload_n dX5_pass_7 rfl ?_
  refine wp_iadd dX5_pass_8 ?_
  refine sa_st hS dX5_pass_9 (by decide) (by omega) ?_
  refine wp_aload_n dX5_pass_10 rfl ?_
  refine sa_i0 hS dX5_pass_11 VX5_now lX5_91 (rq0 rfl rfl) (Nat.le_of_ble_eq_true rfl) (C_wnow (v := g 0 + n) hS (by rw [ud_eq] <;> rfl) ?_)
  dsimp only [pushR]
  exact wp_iret dX5_pass_14 rfl hQ
set_option maxHeartbeats 1000000 in
theorem C_wchange {i v v0 : Int} (hS : SA 5 p q h) (hi : 0 ≤ i ∧ i < 7) (hv0 : g (3 + i) = v0) (hQ : Q (some (vI v0)) (h.set q (oI 1060 (ud g (3 + i) v)))) : Cl X kX5_change [vR p, vI i, vI v] (h.set q (oI 1060 g)) Q := by
  refine cl_of rfl (Nat.le_of_ble_eq_true rfl) rfl ?_
  subst hv0
  refine wp_aload_n dX5_change_0 rfl ?_
  refine wp_iload_n dX5_change_1 rfl ?_
  refine sa_i1 hS dX5_change_2 VX5_settingOf lX5_78 (rq0 rfl rfl) (Nat.le_of_ble_eq_true rfl) (C_wsettingOf (v := g (3 + i)) hS (by omega) rfl ?_)
  dsimp only [pushR]
  refine wp_istore_n (L' := [some (vR p), some (vI i), some (vI v), some (vI (g (3 + i)))]) dX5_change_5 (by decide) rfl ?_
  refine wp_aload_n dX5_change_6 rfl ?_
  refine sa_get hS dX5_change_7 fX5_11 ?_
  refine wp_iconst dX5_change_10 ?_
  refine wp_iload_n dX5_change_11 rfl ?_
  refine wp_iadd dX5_change_12 ?_
  refine wp_iload_n dX5_change_13 rfl ?_
  refine sa_st hS dX5_change_14 (by decide) (by omega) ?_
  refine wp_iload_n dX5_change_15 rfl ?_
  exact wp_iret dX5_change_16 rfl hQ
set_option maxHeartbeats 1000000 in
theorem C_wmove {c a v0 : Int} (hS : SA 5 p q h) (hc : 0 ≤ c ∧ c < 6) (hv0 : g (cA c + 0) = v0) (hQ : Q (some (vI v0)) (h.set q (oI 1060 (ud (ud (ud g (cA c + 0) a) (cA c + 7) 0) (cA c + 3) 0)))) : Cl X kX5_move [vR p, vI c, vI a] (h.set q (oI 1060 g)) Q := by
  refine cl_of rfl (Nat.le_of_ble_eq_true rfl) rfl ?_
  subst hv0
  have hb1 := cA_b hc
  refine wp_aload_n dX5_move_0 rfl ?_
  refine wp_iload_n dX5_move_1 rfl ?_
  refine sa_i1 hS dX5_move_2 VX5_groupOf lX5_71 (rq0 rfl rfl) (Nat.le_of_ble_eq_true rfl) (C_wgroupOf (v := g (cA c + 0)) hS (by omega) rfl ?_)
  dsimp only [pushR]
  refine wp_istore_n (L' := [some (vR p), some (vI c), some (vI a), some (vI (g (cA c + 0)))]) dX5_move_5 (by decide) rfl ?_
  refine wp_aload_n dX5_move_6 rfl ?_
  refine sa_get hS dX5_move_7 fX5_11 ?_
  refine wp_iload_n dX5_move_10 rfl ?_
  refine wp_is1 dX5_move_11 SX5_handAt lX5_24 (rq0 rfl rfl) (Nat.le_of_ble_eq_true rfl) (C_whandAt ?_)
  dsimp only [pushR]
  refine wp_iconst dX5_move_14 ?_
  refine wp_iadd dX5_move_15 ?_
  refine wp_iload_n dX5_move_16 rfl ?_
  refine sa_st hS dX5_move_17 (by decide) (by omega) ?_
  refine wp_aload_n dX5_move_18 rfl ?_
  refine wp_iload_n dX5_move_19 rfl ?_
  refine sa_i1 hS dX5_move_20 VX5_endHand lX5_114 (rq0 rfl rfl) (Nat.le_of_ble_eq_true rfl) (C_wendHand  hS (by omega)  ?_)
  dsimp only [pushR]
  refine wp_iload_n dX5_move_23 rfl ?_
  exact wp_iret dX5_move_24 rfl hQ
def wAb (g : Int → Int) (s : Int) : Int × (Int → Int) := if g 0 < g (s + 7) then (1000 + g (s + 6), (ud g 13 (g 13 + 1))) else ((-4), (ud g 12 (g 12 + 1)))
set_option maxHeartbeats 2000000 in
theorem C_wanswerBesideLease {s : Int} (hS : SA 5 p q h) (hI : IW B g) (hBB : B + 1000 ≤ 1000000000) (hs : 340 ≤ s ∧ s + 12 ≤ 1060) (hQ : Q (some (vI (wAb g s).1)) (h.set q (oI 1060 (wAb g s).2))) : Cl X kX5_answerBesideLease [vR p, vI s] (h.set q (oI 1060 g)) Q := by
  refine cl_of rfl (Nat.le_of_ble_eq_true rfl) rfl ?_
  have hR := hI.r (by omega)
  refine wp_aload_n dX5_answerBesideLease_0 rfl ?_
  refine wp_iload_n dX5_answerBesideLease_1 rfl ?_
  refine wp_bipush dX5_answerBesideLease_2 rfl ?_
  refine wp_iadd dX5_answerBesideLease_4 ?_
  refine sa_i1 hS dX5_answerBesideLease_5 VX5_isAhead lX5_35 (rq0 rfl rfl) (Nat.le_of_ble_eq_true rfl) (C_wisAhead (v0 := g 0) (v1 := g (s + 7)) hS (by omega) rfl rfl (by first | assumption | exact hR _ | exact hR2 _ | exact bI_r _ | (unfold r32; omega)) (by first | assumption | exact hR _ | exact hR2 _ | exact bI_r _ | (unfold r32; omega)) ?_)
  dsimp only [pushR]
  refine wp_beq 36 dX5_answerBesideLease_8 rfl (fun c8 => ?_) (fun c8 => ?_)
  · refine wp_aload_n dX5_answerBesideLease_36 rfl ?_
    refine sa_get hS dX5_answerBesideLease_37 fX5_11 ?_
    refine wp_bipush dX5_answerBesideLease_40 rfl ?_
    refine wp_dup2 dX5_answerBesideLease_42 rfl rfl ?_
    refine sa_ld (v := g 12) hS dX5_answerBesideLease_43 (by decide) (by omega) rfl ?_
    refine wp_iconst dX5_answerBesideLease_44 ?_
    refine wp_iadd dX5_answerBesideLease_45 ?_
    refine sa_st hS dX5_answerBesideLease_46 (by decide) (by omega) ?_
    refine wp_bipush dX5_answerBesideLease_47 rfl ?_
    exact wp_iret dX5_answerBesideLease_49 rfl (by have e : wAb g s = _ := if_neg c8; rw [e] at hQ; exact hQ)
  · refine wp_aload_n dX5_answerBesideLease_11 rfl ?_
    refine sa_get hS dX5_answerBesideLease_12 fX5_11 ?_
    refine wp_bipush dX5_answerBesideLease_15 rfl ?_
    refine wp_dup2 dX5_answerBesideLease_17 rfl rfl ?_
    refine sa_ld (v := g 13) hS dX5_answerBesideLease_18 (by decide) (by omega) rfl ?_
    refine wp_iconst dX5_answerBesideLease_19 ?_
    refine wp_iadd dX5_answerBesideLease_20 ?_
    refine sa_st hS dX5_answerBesideLease_21 (by decide) (by omega) ?_
    refine wp_sipush dX5_answerBesideLease_22 rfl ?_
    refine wp_aload_n dX5_answerBesideLease_25 rfl ?_
    refine sa_get hS dX5_answerBesideLease_26 fX5_11 ?_
    refine wp_iload_n dX5_answerBesideLease_29 rfl ?_
    refine wp_bipush dX5_answerBesideLease_30 rfl ?_
    refine wp_iadd dX5_answerBesideLease_32 ?_
    refine sa_ld (v := g (s + 6)) hS dX5_answerBesideLease_33 (by decide) (by omega) (by rw [ud_ne (by omega)] <;> rfl) ?_
    refine wp_iadd dX5_answerBesideLease_34 ?_
    exact wp_iret dX5_answerBesideLease_35 rfl (by have e : wAb g s = _ := if_pos c8; rw [e] at hQ; exact hQ)
def wGet (g : Int → Int) (c k : Int) : Int × (Int → Int) := if g 0 < g (sA (g (cA c + 0)) k + 5) then (g (sA (g (cA c + 0)) k + 0), (ud (ud (ud (ud g ((sA (g (cA c + 0)) k) + 3) (g 0)) ((sA (g (cA c + 0)) k) + 4) ((g ((sA (g (cA c + 0)) k) + 4)) + 1)) (20 + k) (g (20 + k) + 1)) 10 (g 10 + 1))) else if g 9 = 1 then if g 0 < g (sA (g (cA c + 0)) k + 10) then if g (sA (g (cA c + 0)) k + 8) = c then ((-6), g) else ((wAb g (sA (g (cA c + 0)) k)).1, (wAb g (sA (g (cA c + 0)) k)).2) else ((-6), (ud (ud (ud (ud (ud (ud (ud (ud (ud g 2 ((g 2) + 1)) ((sA (g (cA c + 0)) k) + 8) c) ((sA (g (cA c + 0)) k) + 9) ((g 2) + 1)) ((sA (g (cA c + 0)) k) + 10) ((g 0) + (g 6))) (cA c + 7) 1) (cA c + 1) k) (cA c + 2) ((g 2) + 1)) (cA c + 3) 0) 11 (g 11 + 1))) else ((-6), (ud (ud (ud (ud (ud g (cA c + 7) 1) (cA c + 1) k) (cA c + 2) 0) (cA c + 3) 0) 11 (g 11 + 1)))
set_option maxHeartbeats 2000000 in
theorem C_wobtain {c k : Int} (hS : SA 5 p q h) (hI : IW B g) (hBB : B + 1000 ≤ 1000000000) (hc : 0 ≤ c ∧ c < 6) (hk : 0 ≤ k ∧ k < 10) (hQ : Q (some (vI (wGet g c k).1)) (h.set q (oI 1060 (wGet g c k).2))) : Cl X kX5_obtain [vR p, vI c, vI k] (h.set q (oI 1060 g)) Q := by
  refine cl_of rfl (Nat.le_of_ble_eq_true rfl) rfl ?_
  have hR := hI.r (by omega)
  have hb1 := cA_b hc
  have hb2 := sA_b (hI.cg hc) hk
  have hq0 := hI.b 0
  have hq6 := hI.b 6
  refine wp_aload_n dX5_obtain_0 rfl ?_
  refine wp_iload_n dX5_obtain_1 rfl ?_
  refine sa_i1 hS dX5_obtain_2 VX5_groupOf lX5_71 (rq0 rfl rfl) (Nat.le_of_ble_eq_true rfl) (C_wgroupOf (v := g (cA c + 0)) hS (by omega) rfl ?_)
  dsimp only [pushR]
  refine wp_iload_n dX5_obtain_5 rfl ?_
  refine wp_is2 dX5_obtain_6 SX5_spotAt lX5_31 (rq0 rfl rfl) (Nat.le_of_ble_eq_true rfl) (C_wspotAt ?_)
  dsimp only [pushR]
  refine wp_istore_n (L' := [some (vR p), some (vI c), some (vI k), some (vI (sA (g (cA c + 0)) k)), none, none]) dX5_obtain_9 (by decide) rfl ?_
  refine wp_aload_n dX5_obtain_10 rfl ?_
  refine wp_iload_n dX5_obtain_11 rfl ?_
  refine wp_iconst dX5_obtain_12 ?_
  refine wp_iadd dX5_obtain_13 ?_
  refine sa_i1 hS dX5_obtain_14 VX5_isAhead lX5_35 (rq0 rfl rfl) (Nat.le_of_ble_eq_true rfl) (C_wisAhead (v0 := g 0) (v1 := g (sA (g (cA c + 0)) k + 5)) hS (by omega) rfl rfl (by first | assumption | exact hR _ | exact hR2 _ | exact bI_r _ | (unfold r32; omega)) (by first | assumption | exact hR _ | exact hR2 _ | exact bI_r _ | (unfold r32; omega)) ?_)
  dsimp only [pushR]
  refine wp_beq 58 dX5_obtain_17 rfl (fun c17 => ?_) (fun c17 => ?_)
  · refine wp_aload_n dX5_obtain_58 rfl ?_
    refine wp_bipush dX5_obtain_59 rfl ?_
    refine sa_i1 hS dX5_obtain_61 VX5_settingOf lX5_78 (rq0 rfl rfl) (Nat.le_of_ble_eq_true rfl) (C_wsettingOf (v := g 9) hS (by omega) rfl ?_)
    dsimp only [pushR]
    refine wp_iconst dX5_obtain_64 ?_
    refine wp_icmp_ne 72 dX5_obtain_65 rfl (by first | assumption | exact hR _ | exact hR2 _ | exact bI_r _ | (unfold r32; omega)) ⟨by omega, by omega⟩ (fun c65 => ?_) (fun c65 => ?_)
    · refine wp_iconst dX5_obtain_72 ?_
      refine wp_istore (L' := [some (vR p), some (vI c), some (vI k), some (vI (sA (g (cA c + 0)) k)), some (vI 0), none]) dX5_obtain_73 (by decide) rfl ?_
      refine wp_iload dX5_obtain_75 rfl ?_
      refine wp_if_eq 115 dX5_obtain_77 rfl ⟨by omega, by omega⟩ (fun c77 => ?_) (fun c77 => absurd c77 (by omega))
      refine wp_iload dX5_obtain_115 rfl ?_
      refine wp_if_eq 129 dX5_obtain_117 rfl ⟨by omega, by omega⟩ (fun c117 => ?_) (fun c117 => absurd c117 (by omega))
      refine wp_iconst dX5_obtain_129 ?_
      refine wp_istore (L' := [some (vR p), some (vI c), some (vI k), some (vI (sA (g (cA c + 0)) k)), some (vI 0), some (vI 0)]) dX5_obtain_130 (by decide) rfl ?_
      refine wp_aload_n dX5_obtain_132 rfl ?_
      refine wp_iload_n dX5_obtain_133 rfl ?_
      refine wp_iload_n dX5_obtain_134 rfl ?_
      refine wp_iload dX5_obtain_135 rfl ?_
      refine sa_i3 hS dX5_obtain_137 VX5_takeHand lX5_87 (rq0 rfl rfl) (Nat.le_of_ble_eq_true rfl) (C_wtakeHand  hS (by omega)  ?_)
      dsimp only [pushR]
      refine wp_aload_n dX5_obtain_140 rfl ?_
      refine sa_get hS dX5_obtain_141 fX5_11 ?_
      refine wp_bipush dX5_obtain_144 rfl ?_
      refine wp_dup2 dX5_obtain_146 rfl rfl ?_
      refine sa_ld (v := g 11) hS dX5_obtain_147 (by decide) (by omega) (by rw [ud_ne (by omega), ud_ne (by omega), ud_ne (by omega), ud_ne (by omega)] <;> rfl) ?_
      refine wp_iconst dX5_obtain_148 ?_
      refine wp_iadd dX5_obtain_149 ?_
      refine sa_st hS dX5_obtain_150 (by decide) (by omega) ?_
      refine wp_bipush dX5_obtain_151 rfl ?_
      exact wp_iret dX5_obtain_153 rfl (by have e : wGet g c k = _ := (if_neg c17).trans (if_neg c65); rw [e] at hQ; exact hQ)
    · refine wp_iconst dX5_obtain_68 ?_
      refine wp_goto 73 dX5_obtain_69 rfl ?_
      refine wp_istore (L' := [some (vR p), some (vI c), some (vI k), some (vI (sA (g (cA c + 0)) k)), some (vI 1), none]) dX5_obtain_73 (by decide) rfl ?_
      refine wp_iload dX5_obtain_75 rfl ?_
      refine wp_if_eq 115 dX5_obtain_77 rfl ⟨by omega, by omega⟩ (fun c77 => absurd c77 (by omega)) (fun c77 => ?_)
      refine wp_aload_n dX5_obtain_80 rfl ?_
      refine wp_iload_n dX5_obtain_81 rfl ?_
      refine wp_bipush dX5_obtain_82 rfl ?_
      refine wp_iadd dX5_obtain_84 ?_
      refine sa_i1 hS dX5_obtain_85 VX5_isAhead lX5_35 (rq0 rfl rfl) (Nat.le_of_ble_eq_true rfl) (C_wisAhead (v0 := g 0) (v1 := g (sA (g (cA c + 0)) k + 10)) hS (by omega) rfl rfl (by first | assumption | exact hR _ | exact hR2 _ | exact bI_r _ | (unfold r32; omega)) (by first | assumption | exact hR _ | exact hR2 _ | exact bI_r _ | (unfold r32; omega)) ?_)
      dsimp only [pushR]
      refine wp_beq 115 dX5_obtain_88 rfl (fun c88 => ?_) (fun c88 => ?_)
      · refine wp_iload dX5_obtain_115 rfl ?_
        refine wp_if_eq 129 dX5_obtain_117 rfl ⟨by omega, by omega⟩ (fun c117 => absurd c117 (by omega)) (fun c117 => ?_)
        refine wp_aload_n dX5_obtain_120 rfl ?_
        refine wp_iload_n dX5_obtain_121 rfl ?_
        refine wp_iload_n dX5_obtain_122 rfl ?_
        refine sa_i2 hS dX5_obtain_123 VX5_giveLease lX5_84 (rq0 rfl rfl) (Nat.le_of_ble_eq_true rfl) (C_wgiveLease (v0 := g 2) (v1 := g 0) (v2 := g 6) hS (by omega) rfl rfl rfl ?_)
        dsimp only [pushR]
        refine wp_goto 130 dX5_obtain_126 rfl ?_
        refine wp_istore (L' := [some (vR p), some (vI c), some (vI k), some (vI (sA (g (cA c + 0)) k)), some (vI 1), some (vI ((g 2) + 1))]) dX5_obtain_130 (by decide) rfl ?_
        refine wp_aload_n dX5_obtain_132 rfl ?_
        refine wp_iload_n dX5_obtain_133 rfl ?_
        refine wp_iload_n dX5_obtain_134 rfl ?_
        refine wp_iload dX5_obtain_135 rfl ?_
        refine sa_i3 hS dX5_obtain_137 VX5_takeHand lX5_87 (rq0 rfl rfl) (Nat.le_of_ble_eq_true rfl) (C_wtakeHand  hS (by omega)  ?_)
        dsimp only [pushR]
        refine wp_aload_n dX5_obtain_140 rfl ?_
        refine sa_get hS dX5_obtain_141 fX5_11 ?_
        refine wp_bipush dX5_obtain_144 rfl ?_
        refine wp_dup2 dX5_obtain_146 rfl rfl ?_
        refine sa_ld (v := g 11) hS dX5_obtain_147 (by decide) (by omega) (by rw [ud_ne (by omega), ud_ne (by omega), ud_ne (by omega), ud_ne (by omega), ud_ne (by omega), ud_ne (by omega), ud_ne (by omega), ud_ne (by omega)] <;> rfl) ?_
        refine wp_iconst dX5_obtain_148 ?_
        refine wp_iadd dX5_obtain_149 ?_
        refine sa_st hS dX5_obtain_150 (by decide) (by omega) ?_
        refine wp_bipush dX5_obtain_151 rfl ?_
        exact wp_iret dX5_obtain_153 rfl (by have e : wGet g c k = _ := (if_neg c17).trans ((if_pos c65).trans (if_neg c88)); rw [e] at hQ; exact hQ)
      · refine wp_aload_n dX5_obtain_91 rfl ?_
        refine sa_get hS dX5_obtain_92 fX5_11 ?_
        refine wp_iload_n dX5_obtain_95 rfl ?_
        refine wp_bipush dX5_obtain_96 rfl ?_
        refine wp_iadd dX5_obtain_98 ?_
        refine sa_ld (v := g (sA (g (cA c + 0)) k + 8)) hS dX5_obtain_99 (by decide) (by omega) rfl ?_
        refine wp_iload_n dX5_obtain_100 rfl ?_
        refine wp_icmp_ne 109 dX5_obtain_101 rfl (by first | assumption | exact hR _ | exact hR2 _ | exact bI_r _ | (unfold r32; omega)) (by first | assumption | exact hR _ | exact hR2 _ | exact bI_r _ | (unfold r32; omega)) (fun c101 => ?_) (fun c101 => ?_)
        · refine wp_aload_n dX5_obtain_109 rfl ?_
          refine wp_iload_n dX5_obtain_110 rfl ?_
          refine sa_i1 hS dX5_obtain_111 VX5_answerBesideLease lX5_81 (rq0 rfl rfl) (Nat.le_of_ble_eq_true rfl) (C_wanswerBesideLease hS hI (by omega) (by omega) ?_)
          dsimp only [pushR]
          exact wp_iret dX5_obtain_114 rfl (by have e : wGet g c k = _ := (if_neg c17).trans ((if_pos c65).trans ((if_pos c88).trans (if_neg c101))); rw [e] at hQ; exact hQ)
        · refine wp_bipush dX5_obtain_104 rfl ?_
          refine wp_goto 114 dX5_obtain_106 rfl ?_
          exact wp_iret dX5_obtain_114 rfl (by have e : wGet g c k = _ := (if_neg c17).trans ((if_pos c65).trans ((if_pos c88).trans (if_pos c101))); rw [e] at hQ; exact hQ)
  · refine wp_aload_n dX5_obtain_20 rfl ?_
    refine wp_iload_n dX5_obtain_21 rfl ?_
    refine sa_i1 hS dX5_obtain_22 VX5_useEntry lX5_74 (rq0 rfl rfl) (Nat.le_of_ble_eq_true rfl) (C_wuseEntry (v0 := g 0) (v1 := g ((sA (g (cA c + 0)) k) + 4)) hS (by omega) rfl rfl ?_)
    dsimp only [pushR]
    refine wp_aload_n dX5_obtain_25 rfl ?_
    refine sa_get hS dX5_obtain_26 fX5_11 ?_
    refine wp_bipush dX5_obtain_29 rfl ?_
    refine wp_iload_n dX5_obtain_31 rfl ?_
    refine wp_iadd dX5_obtain_32 ?_
    refine wp_dup2 dX5_obtain_33 rfl rfl ?_
    refine sa_ld (v := g (20 + k)) hS dX5_obtain_34 (by decide) (by omega) (by rw [ud_ne (by omega), ud_ne (by omega)] <;> rfl) ?_
    refine wp_iconst dX5_obtain_35 ?_
    refine wp_iadd dX5_obtain_36 ?_
    refine sa_st hS dX5_obtain_37 (by decide) (by omega) ?_
    refine wp_aload_n dX5_obtain_38 rfl ?_
    refine sa_get hS dX5_obtain_39 fX5_11 ?_
    refine wp_bipush dX5_obtain_42 rfl ?_
    refine wp_dup2 dX5_obtain_44 rfl rfl ?_
    refine sa_ld (v := g 10) hS dX5_obtain_45 (by decide) (by omega) (by rw [ud_ne (by omega), ud_ne (by omega), ud_ne (by omega)] <;> rfl) ?_
    refine wp_iconst dX5_obtain_46 ?_
    refine wp_iadd dX5_obtain_47 ?_
    refine sa_st hS dX5_obtain_48 (by decide) (by omega) ?_
    refine wp_aload_n dX5_obtain_49 rfl ?_
    refine sa_get hS dX5_obtain_50 fX5_11 ?_
    refine wp_iload_n dX5_obtain_53 rfl ?_
    refine wp_iconst dX5_obtain_54 ?_
    refine wp_iadd dX5_obtain_55 ?_
    refine sa_ld (v := g (sA (g (cA c + 0)) k + 0)) hS dX5_obtain_56 (by decide) (by omega) (by rw [ud_ne (by omega), ud_ne (by omega), ud_ne (by omega), ud_ne (by omega)] <;> rfl) ?_
    exact wp_iret dX5_obtain_57 rfl (by have e : wGet g c k = _ := if_pos c17; rw [e] at hQ; exact hQ)
theorem C_wisWarmBeside {a : Int} (hS : SA 5 p q h) (hI : IW B g) (hBB : B + 1000 ≤ 1000000000) (ha : 0 ≤ a ∧ a < 6) (hQ : Q (some (vI (bI (g (36 + a) = 1 ∧ g (36 + besO a) = 0)))) (h.set q (oI 1060 g))) : Cl X kX5_isWarmBeside [vR p, vI a] (h.set q (oI 1060 g)) Q := by
  refine cl_of rfl (Nat.le_of_ble_eq_true rfl) rfl ?_
  have hR := hI.r (by omega)
  have hb := besO_b ha
  refine wp_aload_n dX5_isWarmBeside_0 rfl ?_
  refine sa_get hS dX5_isWarmBeside_1 fX5_11 ?_
  refine wp_bipush dX5_isWarmBeside_4 rfl ?_
  refine wp_iload_n dX5_isWarmBeside_6 rfl ?_
  refine wp_iadd dX5_isWarmBeside_7 ?_
  refine sa_ld (v := g (36 + a)) hS dX5_isWarmBeside_8 (by decide) (by omega) rfl ?_
  refine wp_iconst dX5_isWarmBeside_9 ?_
  refine wp_icmp_ne 31 dX5_isWarmBeside_10 rfl (by first | assumption | exact hR _ | exact hR2 _ | exact bI_r _ | (unfold r32; omega)) ⟨by omega, by omega⟩ (fun c10 => ?_) (fun c10 => ?_)
  · refine wp_iconst dX5_isWarmBeside_31 ?_
    exact wp_zret dX5_isWarmBeside_32 rfl (Or.inl rfl) (by first | (rw [bI_t (by omega)] at hQ; exact hQ) | (rw [bI_f (by omega)] at hQ; exact hQ))
  · refine wp_aload_n dX5_isWarmBeside_13 rfl ?_
    refine sa_get hS dX5_isWarmBeside_14 fX5_11 ?_
    refine wp_bipush dX5_isWarmBeside_17 rfl ?_
    refine wp_iload_n dX5_isWarmBeside_19 rfl ?_
    refine wp_iconst dX5_isWarmBeside_20 ?_
    refine wp_ixor (z := besO a) dX5_isWarmBeside_21 (xo_1 ha) ?_
    refine wp_iadd dX5_isWarmBeside_22 ?_
    refine sa_ld (v := g (36 + besO a)) hS dX5_isWarmBeside_23 (by decide) (by omega) rfl ?_
    refine wp_if_ne 31 dX5_isWarmBeside_24 rfl (by first | assumption | exact hR _ | exact hR2 _ | exact bI_r _ | (unfold r32; omega)) (fun c24 => ?_) (fun c24 => ?_)
    · refine wp_iconst dX5_isWarmBeside_31 ?_
      exact wp_zret dX5_isWarmBeside_32 rfl (Or.inl rfl) (by first | (rw [bI_t (by omega)] at hQ; exact hQ) | (rw [bI_f (by omega)] at hQ; exact hQ))
    · refine wp_iconst dX5_isWarmBeside_27 ?_
      refine wp_goto 32 dX5_isWarmBeside_28 rfl ?_
      exact wp_zret dX5_isWarmBeside_32 rfl (Or.inr rfl) (by first | (rw [bI_t (by omega)] at hQ; exact hQ) | (rw [bI_f (by omega)] at hQ; exact hQ))
theorem wSv_b (hI : IW B g) {r k : Int} (hr : 0 ≤ r ∧ r < 3) (hk : 0 ≤ k ∧ k < 10) : 0 ≤ wSv g r k ∧ wSv g r k ≤ 60 := by
  unfold wSv
  split <;> exact hI.v60 (by omega)
def wLook2 (g : Int → Int) (c a k : Int) : Int × (Int → Int) := if g (42 + (a / 2) * 10 + k) ≤ 0 then ((wVal (ud g (33 + a / 2) (g (33 + a / 2) + 1)) (wSv (ud g (33 + a / 2) (g (33 + a / 2) + 1)) (a / 2) k)), (ud (ud (ud (ud (ud g (33 + a / 2) (g (33 + a / 2) + 1)) ((cA c) + 3) 1) ((cA c) + 4) (wVal (ud g (33 + a / 2) (g (33 + a / 2) + 1)) (wSv (ud g (33 + a / 2) (g (33 + a / 2) + 1)) (a / 2) k))) ((cA c) + 5) (wSv (ud g (33 + a / 2) (g (33 + a / 2) + 1)) (a / 2) k)) ((cA c) + 6) 0)) else ((wVal (ud g (33 + 0) (g (33 + 0) + 1)) (wSv (ud g (33 + 0) (g (33 + 0) + 1)) 0 k)), (ud (ud (ud (ud (ud g (33 + 0) (g (33 + 0) + 1)) ((cA c) + 3) 1) ((cA c) + 4) (wVal (ud g (33 + 0) (g (33 + 0) + 1)) (wSv (ud g (33 + 0) (g (33 + 0) + 1)) 0 k))) ((cA c) + 5) (wSv (ud g (33 + 0) (g (33 + 0) + 1)) 0 k)) ((cA c) + 6) 0))
set_option maxHeartbeats 2000000 in
theorem sx_wlook2 {b : Nat × Nat} {c a k : Int} (hS : SA 5 p q h) (hR : ∀ j, r32 (g j)) (hI : IW B g) (hBB : B + 20000 ≤ 1000000000) (hc : 0 ≤ c ∧ c < 6) (ha : 0 ≤ a ∧ a < 6) (hk : 0 ≤ k ∧ k < 10) (hQ : Q (some (vI (wLook2 g c a k).1)) (h.set q (oI 1060 (wLook2 g c a k).2))) : Wp X kX5_lookUp 105 [some (vR p), some (vI c), some (vI (cA c)), some (vI a), some (vI k), none, none] [] (h.set q (oI 1060 g)) b Q := by
  have hb1 := cA_b hc
  have hJ : ∀ r, 0 ≤ r ∧ r < 3 → IW (B + 1) (ud g (33 + r) (g (33 + r) + 1)) := fun r hr => (hI.up (by omega)).wr (by have := hI.b (33 + r); unfold CellW; omega)
  have hJ2 : ∀ r, 0 ≤ r ∧ r < 3 → 0 ≤ wSv (ud g (33 + r) (g (33 + r) + 1)) r k ∧ wSv (ud g (33 + r) (g (33 + r) + 1)) r k ≤ 60 := fun r hr => wSv_b (hJ r hr) hr hk
  refine wp_aload_n dX5_lookUp_105 rfl ?_
  refine wp_iload_n dX5_lookUp_106 rfl ?_
  refine wp_iconst dX5_lookUp_107 ?_
  refine wp_idivn dX5_lookUp_108 (by first | assumption | exact hR _ | exact hR2 _ | exact bI_r _ | (unfold r32; omega)) ⟨by omega, by omega⟩ (by omega) (by omega) ?_
  refine wp_iload dX5_lookUp_109 rfl ?_
  refine sa_i2 hS dX5_lookUp_111 VX5_markerOf lX5_105 (rq0 rfl rfl) (Nat.le_of_ble_eq_true rfl) (C_wmarkerOf (v := g (42 + (a / 2) * 10 + k)) hS (by omega) (by omega) rfl ?_)
  dsimp only [pushR]
  refine wp_if_le 121 dX5_lookUp_114 rfl (by first | assumption | exact hR _ | exact hR2 _ | exact bI_r _ | (unfold r32; omega)) (fun c114 => ?_) (fun c114 => ?_)
  · refine wp_iload_n dX5_lookUp_121 rfl ?_
    refine wp_iconst dX5_lookUp_122 ?_
    refine wp_idivn dX5_lookUp_123 (by first | assumption | exact hR _ | exact hR2 _ | exact bI_r _ | (unfold r32; omega)) ⟨by omega, by omega⟩ (by omega) (by omega) ?_
    refine wp_istore (L' := [some (vR p), some (vI c), some (vI (cA c)), some (vI a), some (vI k), some (vI (a / 2)), none]) dX5_lookUp_124 (by decide) rfl ?_
    refine wp_aload_n dX5_lookUp_126 rfl ?_
    refine sa_get hS dX5_lookUp_127 fX5_11 ?_
    refine wp_bipush dX5_lookUp_130 rfl ?_
    refine wp_iload dX5_lookUp_132 rfl ?_
    refine wp_iadd dX5_lookUp_134 ?_
    refine wp_dup2 dX5_lookUp_135 rfl rfl ?_
    refine sa_ld (v := g (33 + a / 2)) hS dX5_lookUp_136 (by decide) (by omega) rfl ?_
    refine wp_iconst dX5_lookUp_137 ?_
    refine wp_iadd dX5_lookUp_138 ?_
    refine sa_st hS dX5_lookUp_139 (by decide) (by omega) ?_
    refine wp_aload_n dX5_lookUp_140 rfl ?_
    refine wp_iload dX5_lookUp_141 rfl ?_
    refine wp_iload dX5_lookUp_143 rfl ?_
    refine sa_i2 hS dX5_lookUp_145 VX5_storeVersion lX5_108 (rq0 rfl rfl) (Nat.le_of_ble_eq_true rfl) (C_wstoreVersion hS (hJ (a / 2) (by omega)) (by omega) (by omega) (by omega) ?_)
    dsimp only [pushR]
    refine wp_istore (L' := [some (vR p), some (vI c), some (vI (cA c)), some (vI a), some (vI k), some (vI (a / 2)), some (vI (wSv (ud g (33 + a / 2) (g (33 + a / 2) + 1)) (a / 2) k))]) dX5_lookUp_148 (by decide) rfl ?_
    refine wp_aload_n dX5_lookUp_150 rfl ?_
    refine wp_iload_n dX5_lookUp_151 rfl ?_
    refine wp_aload_n dX5_lookUp_152 rfl ?_
    refine wp_iload dX5_lookUp_153 rfl ?_
    refine sa_i1 hS dX5_lookUp_155 VX5_valueOf lX5_111 (rq0 rfl rfl) (Nat.le_of_ble_eq_true rfl) (C_wvalueOf hS (hJ (a / 2) (by omega)) (by omega) (hJ2 (a / 2) (by omega)) ?_)
    dsimp only [pushR]
    refine wp_iload dX5_lookUp_158 rfl ?_
    refine wp_iconst dX5_lookUp_160 ?_
    refine sa_i4 hS dX5_lookUp_161 VX5_keepInHand lX5_101 (rq0 rfl rfl) (Nat.le_of_ble_eq_true rfl) (C_wkeepInHand  hS (by omega)  ?_)
    dsimp only [pushR]
    exact wp_iret dX5_lookUp_164 rfl (by have e : wLook2 g c a k = _ := if_pos c114; rw [e] at hQ; exact hQ)
  · refine wp_iconst dX5_lookUp_117 ?_
    refine wp_goto 124 dX5_lookUp_118 rfl ?_
    refine wp_istore (L' := [some (vR p), some (vI c), some (vI (cA c)), some (vI a), some (vI k), some (vI 0), none]) dX5_lookUp_124 (by decide) rfl ?_
    refine wp_aload_n dX5_lookUp_126 rfl ?_
    refine sa_get hS dX5_lookUp_127 fX5_11 ?_
    refine wp_bipush dX5_lookUp_130 rfl ?_
    refine wp_iload dX5_lookUp_132 rfl ?_
    refine wp_iadd dX5_lookUp_134 ?_
    refine wp_dup2 dX5_lookUp_135 rfl rfl ?_
    refine sa_ld (v := g (33 + 0)) hS dX5_lookUp_136 (by decide) (by omega) rfl ?_
    refine wp_iconst dX5_lookUp_137 ?_
    refine wp_iadd dX5_lookUp_138 ?_
    refine sa_st hS dX5_lookUp_139 (by decide) (by omega) ?_
    refine wp_aload_n dX5_lookUp_140 rfl ?_
    refine wp_iload dX5_lookUp_141 rfl ?_
    refine wp_iload dX5_lookUp_143 rfl ?_
    refine sa_i2 hS dX5_lookUp_145 VX5_storeVersion lX5_108 (rq0 rfl rfl) (Nat.le_of_ble_eq_true rfl) (C_wstoreVersion hS (hJ (0) (by omega)) (by omega) (by omega) (by omega) ?_)
    dsimp only [pushR]
    refine wp_istore (L' := [some (vR p), some (vI c), some (vI (cA c)), some (vI a), some (vI k), some (vI 0), some (vI (wSv (ud g (33 + 0) (g (33 + 0) + 1)) 0 k))]) dX5_lookUp_148 (by decide) rfl ?_
    refine wp_aload_n dX5_lookUp_150 rfl ?_
    refine wp_iload_n dX5_lookUp_151 rfl ?_
    refine wp_aload_n dX5_lookUp_152 rfl ?_
    refine wp_iload dX5_lookUp_153 rfl ?_
    refine sa_i1 hS dX5_lookUp_155 VX5_valueOf lX5_111 (rq0 rfl rfl) (Nat.le_of_ble_eq_true rfl) (C_wvalueOf hS (hJ (0) (by omega)) (by omega) (hJ2 (0) (by omega)) ?_)
    dsimp only [pushR]
    refine wp_iload dX5_lookUp_158 rfl ?_
    refine wp_iconst dX5_lookUp_160 ?_
    refine sa_i4 hS dX5_lookUp_161 VX5_keepInHand lX5_101 (rq0 rfl rfl) (Nat.le_of_ble_eq_true rfl) (C_wkeepInHand  hS (by omega)  ?_)
    dsimp only [pushR]
    exact wp_iret dX5_lookUp_164 rfl (by have e : wLook2 g c a k = _ := if_neg c114; rw [e] at hQ; exact hQ)
theorem wVal_r {f : Int → Int} {n : Int} (hR : ∀ j, r32 (f j)) : r32 (wVal f n) := by unfold wVal; split; exact r32_0; exact hR _
def wLook (g : Int → Int) (c : Int) : Int × (Int → Int) := if g (cA c + 7) = 0 then ((-5), g) else if g (36 + (g (cA c + 0))) = 1 ∧ g (36 + besO (g (cA c + 0))) = 0 then if g 0 < g (sA (besO (g (cA c + 0))) (g (cA c + 1)) + 5) then ((g (sA (besO (g (cA c + 0))) (g (cA c + 1)) + 0)), (ud (ud (ud (ud (ud g 16 (g 16 + 1)) ((cA c) + 3) 1) ((cA c) + 4) (g (sA (besO (g (cA c + 0))) (g (cA c + 1)) + 0))) ((cA c) + 5) (g (sA (besO (g (cA c + 0))) (g (cA c + 1)) + 1))) ((cA c) + 6) 1)) else wLook2 g c (g (cA c + 0)) (g (cA c + 1)) else wLook2 g c (g (cA c + 0)) (g (cA c + 1))
set_option maxHeartbeats 2000000 in
theorem C_wlookUp {c : Int} (hS : SA 5 p q h) (hI : IW B g) (hBB : B + 20000 ≤ 1000000000) (hc : 0 ≤ c ∧ c < 6) (hQ : Q (some (vI (wLook g c).1)) (h.set q (oI 1060 (wLook g c).2))) : Cl X kX5_lookUp [vR p, vI c] (h.set q (oI 1060 g)) Q := by
  refine cl_of rfl (Nat.le_of_ble_eq_true rfl) rfl ?_
  have hR := hI.r (by omega)
  have hb1 := cA_b hc
  have hcg := hI.cg hc
  have hck := hI.ck hc
  have hbo := besO_b hcg
  have hb2 := sA_b hbo hck
  refine wp_iload_n dX5_lookUp_0 rfl ?_
  refine wp_is1 dX5_lookUp_1 SX5_handAt lX5_24 (rq0 rfl rfl) (Nat.le_of_ble_eq_true rfl) (C_whandAt ?_)
  dsimp only [pushR]
  refine wp_istore_n (L' := [some (vR p), some (vI c), some (vI (cA c)), none, none, none, none]) dX5_lookUp_4 (by decide) rfl ?_
  refine wp_aload_n dX5_lookUp_5 rfl ?_
  refine sa_get hS dX5_lookUp_6 fX5_11 ?_
  refine wp_iload_n dX5_lookUp_9 rfl ?_
  refine wp_bipush dX5_lookUp_10 rfl ?_
  refine wp_iadd dX5_lookUp_12 ?_
  refine sa_ld (v := g (cA c + 7)) hS dX5_lookUp_13 (by decide) (by omega) rfl ?_
  refine wp_if_ne 20 dX5_lookUp_14 rfl (by first | assumption | exact hR _ | exact hR2 _ | exact bI_r _ | (unfold r32; omega)) (fun c14 => ?_) (fun c14 => ?_)
  · refine wp_aload_n dX5_lookUp_20 rfl ?_
    refine sa_get hS dX5_lookUp_21 fX5_11 ?_
    refine wp_iload_n dX5_lookUp_24 rfl ?_
    refine wp_iconst dX5_lookUp_25 ?_
    refine wp_iadd dX5_lookUp_26 ?_
    refine sa_ld (v := g (cA c + 0)) hS dX5_lookUp_27 (by decide) (by omega) rfl ?_
    refine wp_istore_n (L' := [some (vR p), some (vI c), some (vI (cA c)), some (vI (g (cA c + 0))), none, none, none]) dX5_lookUp_28 (by decide) rfl ?_
    refine wp_aload_n dX5_lookUp_29 rfl ?_
    refine sa_get hS dX5_lookUp_30 fX5_11 ?_
    refine wp_iload_n dX5_lookUp_33 rfl ?_
    refine wp_iconst dX5_lookUp_34 ?_
    refine wp_iadd dX5_lookUp_35 ?_
    refine sa_ld (v := g (cA c + 1)) hS dX5_lookUp_36 (by decide) (by omega) rfl ?_
    refine wp_istore (L' := [some (vR p), some (vI c), some (vI (cA c)), some (vI (g (cA c + 0))), some (vI (g (cA c + 1))), none, none]) dX5_lookUp_37 (by decide) rfl ?_
    refine wp_aload_n dX5_lookUp_39 rfl ?_
    refine wp_iload_n dX5_lookUp_40 rfl ?_
    refine sa_i1 hS dX5_lookUp_41 VX5_isWarmBeside lX5_94 (rq0 rfl rfl) (Nat.le_of_ble_eq_true rfl) (C_wisWarmBeside hS hI (by omega) (by omega) ?_)
    dsimp only [pushR]
    refine wp_beq 105 dX5_lookUp_44 rfl (fun c44 => ?_) (fun c44 => ?_)
    · exact sx_wlook2 hS hR hI (by omega) hc hcg hck (by have e : wLook g c = _ := (if_neg c14).trans (if_neg c44); rw [e] at hQ; exact hQ)
    · refine wp_aload_n dX5_lookUp_47 rfl ?_
      refine wp_iload_n dX5_lookUp_48 rfl ?_
      refine wp_iconst dX5_lookUp_49 ?_
      refine wp_ixor (z := besO (g (cA c + 0))) dX5_lookUp_50 (xo_1 hcg) ?_
      refine wp_iload dX5_lookUp_51 rfl ?_
      refine sa_i2 hS dX5_lookUp_53 VX5_hasEntry lX5_97 (rq0 rfl rfl) (Nat.le_of_ble_eq_true rfl) (C_whasEntry (v0 := g 0) (v1 := g (sA (besO (g (cA c + 0))) (g (cA c + 1)) + 5)) hS (by omega) (by omega) rfl rfl (by first | assumption | exact hR _ | exact hR2 _ | exact bI_r _ | (unfold r32; omega)) (by first | assumption | exact hR _ | exact hR2 _ | exact bI_r _ | (unfold r32; omega)) ?_)
      dsimp only [pushR]
      refine wp_beq 105 dX5_lookUp_56 rfl (fun c56 => ?_) (fun c56 => ?_)
      · exact sx_wlook2 hS hR hI (by omega) hc hcg hck (by have e : wLook g c = _ := (if_neg c14).trans ((if_pos c44).trans (if_neg c56)); rw [e] at hQ; exact hQ)
      · refine wp_aload_n dX5_lookUp_59 rfl ?_
        refine sa_get hS dX5_lookUp_60 fX5_11 ?_
        refine wp_bipush dX5_lookUp_63 rfl ?_
        refine wp_dup2 dX5_lookUp_65 rfl rfl ?_
        refine sa_ld (v := g 16) hS dX5_lookUp_66 (by decide) (by omega) rfl ?_
        refine wp_iconst dX5_lookUp_67 ?_
        refine wp_iadd dX5_lookUp_68 ?_
        refine sa_st hS dX5_lookUp_69 (by decide) (by omega) ?_
        refine wp_iload_n dX5_lookUp_70 rfl ?_
        refine wp_iconst dX5_lookUp_71 ?_
        refine wp_ixor (z := besO (g (cA c + 0))) dX5_lookUp_72 (xo_1 hcg) ?_
        refine wp_iload dX5_lookUp_73 rfl ?_
        refine wp_is2 dX5_lookUp_75 SX5_spotAt lX5_31 (rq0 rfl rfl) (Nat.le_of_ble_eq_true rfl) (C_wspotAt ?_)
        dsimp only [pushR]
        refine wp_istore (L' := [some (vR p), some (vI c), some (vI (cA c)), some (vI (g (cA c + 0))), some (vI (g (cA c + 1))), some (vI (sA (besO (g (cA c + 0))) (g (cA c + 1)))), none]) dX5_lookUp_78 (by decide) rfl ?_
        refine wp_aload_n dX5_lookUp_80 rfl ?_
        refine wp_iload_n dX5_lookUp_81 rfl ?_
        refine wp_aload_n dX5_lookUp_82 rfl ?_
        refine sa_get hS dX5_lookUp_83 fX5_11 ?_
        refine wp_iload dX5_lookUp_86 rfl ?_
        refine wp_iconst dX5_lookUp_88 ?_
        refine wp_iadd dX5_lookUp_89 ?_
        refine sa_ld (v := g (sA (besO (g (cA c + 0))) (g (cA c + 1)) + 0)) hS dX5_lookUp_90 (by decide) (by omega) (by rw [ud_ne (by omega)] <;> rfl) ?_
        refine wp_aload_n dX5_lookUp_91 rfl ?_
        refine sa_get hS dX5_lookUp_92 fX5_11 ?_
        refine wp_iload dX5_lookUp_95 rfl ?_
        refine wp_iconst dX5_lookUp_97 ?_
        refine wp_iadd dX5_lookUp_98 ?_
        refine sa_ld (v := g (sA (besO (g (cA c + 0))) (g (cA c + 1)) + 1)) hS dX5_lookUp_99 (by decide) (by omega) (by rw [ud_ne (by omega)] <;> rfl) ?_
        refine wp_iconst dX5_lookUp_100 ?_
        refine sa_i4 hS dX5_lookUp_101 VX5_keepInHand lX5_101 (rq0 rfl rfl) (Nat.le_of_ble_eq_true rfl) (C_wkeepInHand  hS (by omega)  ?_)
        dsimp only [pushR]
        exact wp_iret dX5_lookUp_104 rfl (by have e : wLook g c = _ := (if_neg c14).trans ((if_pos c44).trans (if_pos c56)); rw [e] at hQ; exact hQ)
  · refine wp_bipush dX5_lookUp_17 rfl ?_
    exact wp_iret dX5_lookUp_19 rfl (by have e : wLook g c = _ := if_pos c14; rw [e] at hQ; exact hQ)
def wVo (g : Int → Int) (s t : Int) : Int := if g 0 < g (s + 10) then if g (s + 9) = t then if g 9 = 1 then 0 else 0 else if g 9 = 1 then 1 else 0 else if g 9 = 1 then 1 else 0
set_option maxHeartbeats 2000000 in
theorem C_wisVoid {s t : Int} (hS : SA 5 p q h) (hI : IW B g) (hBB : B + 1000 ≤ 1000000000) (hs : 340 ≤ s ∧ s + 12 ≤ 1060) (ht : r32 t) (hQ : Q (some (vI (wVo g s t))) (h.set q (oI 1060 g))) : Cl X kX5_isVoid [vR p, vI s, vI t] (h.set q (oI 1060 g)) Q := by
  refine cl_of rfl (Nat.le_of_ble_eq_true rfl) rfl ?_
  have hR := hI.r (by omega)
  refine wp_aload_n dX5_isVoid_0 rfl ?_
  refine wp_iload_n dX5_isVoid_1 rfl ?_
  refine wp_bipush dX5_isVoid_2 rfl ?_
  refine wp_iadd dX5_isVoid_4 ?_
  refine sa_i1 hS dX5_isVoid_5 VX5_isAhead lX5_35 (rq0 rfl rfl) (Nat.le_of_ble_eq_true rfl) (C_wisAhead (v0 := g 0) (v1 := g (s + 10)) hS (by omega) rfl rfl (by first | assumption | exact hR _ | exact hR2 _ | exact bI_r _ | (unfold r32; omega)) (by first | assumption | exact hR _ | exact hR2 _ | exact bI_r _ | (unfold r32; omega)) ?_)
  dsimp only [pushR]
  refine wp_beq 28 dX5_isVoid_8 rfl (fun c8 => ?_) (fun c8 => ?_)
  · refine wp_iconst dX5_isVoid_28 ?_
    refine wp_istore_n (L' := [some (vR p), some (vI s), some (vI t), some (vI 0)]) dX5_isVoid_29 (by decide) rfl ?_
    refine wp_aload_n dX5_isVoid_30 rfl ?_
    refine wp_bipush dX5_isVoid_31 rfl ?_
    refine sa_i1 hS dX5_isVoid_33 VX5_settingOf lX5_78 (rq0 rfl rfl) (Nat.le_of_ble_eq_true rfl) (C_wsettingOf (v := g 9) hS (by omega) rfl ?_)
    dsimp only [pushR]
    refine wp_iconst dX5_isVoid_36 ?_
    refine wp_icmp_ne 48 dX5_isVoid_37 rfl (by first | assumption | exact hR _ | exact hR2 _ | exact bI_r _ | (unfold r32; omega)) ⟨by omega, by omega⟩ (fun c37 => ?_) (fun c37 => ?_)
    · refine wp_iconst dX5_isVoid_48 ?_
      exact wp_zret dX5_isVoid_49 rfl (Or.inl rfl) (by have e : wVo g s t = _ := (if_neg c8).trans (if_neg c37); rw [e] at hQ; exact hQ)
    · refine wp_iload_n dX5_isVoid_40 rfl ?_
      refine wp_if_ne 48 dX5_isVoid_41 rfl ⟨by omega, by omega⟩ (fun c41 => absurd c41 (by omega)) (fun c41 => ?_)
      refine wp_iconst dX5_isVoid_44 ?_
      refine wp_goto 49 dX5_isVoid_45 rfl ?_
      exact wp_zret dX5_isVoid_49 rfl (Or.inr rfl) (by have e : wVo g s t = _ := (if_neg c8).trans (if_pos c37); rw [e] at hQ; exact hQ)
  · refine wp_aload_n dX5_isVoid_11 rfl ?_
    refine sa_get hS dX5_isVoid_12 fX5_11 ?_
    refine wp_iload_n dX5_isVoid_15 rfl ?_
    refine wp_bipush dX5_isVoid_16 rfl ?_
    refine wp_iadd dX5_isVoid_18 ?_
    refine sa_ld (v := g (s + 9)) hS dX5_isVoid_19 (by decide) (by omega) rfl ?_
    refine wp_iload_n dX5_isVoid_20 rfl ?_
    refine wp_icmp_ne 28 dX5_isVoid_21 rfl (by first | assumption | exact hR _ | exact hR2 _ | exact bI_r _ | (unfold r32; omega)) (by first | assumption | exact hR _ | exact hR2 _ | exact bI_r _ | (unfold r32; omega)) (fun c21 => ?_) (fun c21 => ?_)
    · refine wp_iconst dX5_isVoid_28 ?_
      refine wp_istore_n (L' := [some (vR p), some (vI s), some (vI t), some (vI 0)]) dX5_isVoid_29 (by decide) rfl ?_
      refine wp_aload_n dX5_isVoid_30 rfl ?_
      refine wp_bipush dX5_isVoid_31 rfl ?_
      refine sa_i1 hS dX5_isVoid_33 VX5_settingOf lX5_78 (rq0 rfl rfl) (Nat.le_of_ble_eq_true rfl) (C_wsettingOf (v := g 9) hS (by omega) rfl ?_)
      dsimp only [pushR]
      refine wp_iconst dX5_isVoid_36 ?_
      refine wp_icmp_ne 48 dX5_isVoid_37 rfl (by first | assumption | exact hR _ | exact hR2 _ | exact bI_r _ | (unfold r32; omega)) ⟨by omega, by omega⟩ (fun c37 => ?_) (fun c37 => ?_)
      · refine wp_iconst dX5_isVoid_48 ?_
        exact wp_zret dX5_isVoid_49 rfl (Or.inl rfl) (by have e : wVo g s t = _ := (if_pos c8).trans ((if_neg c21).trans (if_neg c37)); rw [e] at hQ; exact hQ)
      · refine wp_iload_n dX5_isVoid_40 rfl ?_
        refine wp_if_ne 48 dX5_isVoid_41 rfl ⟨by omega, by omega⟩ (fun c41 => absurd c41 (by omega)) (fun c41 => ?_)
        refine wp_iconst dX5_isVoid_44 ?_
        refine wp_goto 49 dX5_isVoid_45 rfl ?_
        exact wp_zret dX5_isVoid_49 rfl (Or.inr rfl) (by have e : wVo g s t = _ := (if_pos c8).trans ((if_neg c21).trans (if_pos c37)); rw [e] at hQ; exact hQ)
    · refine wp_iconst dX5_isVoid_24 ?_
      refine wp_goto 29 dX5_isVoid_25 rfl ?_
      refine wp_istore_n (L' := [some (vR p), some (vI s), some (vI t), some (vI 1)]) dX5_isVoid_29 (by decide) rfl ?_
      refine wp_aload_n dX5_isVoid_30 rfl ?_
      refine wp_bipush dX5_isVoid_31 rfl ?_
      refine sa_i1 hS dX5_isVoid_33 VX5_settingOf lX5_78 (rq0 rfl rfl) (Nat.le_of_ble_eq_true rfl) (C_wsettingOf (v := g 9) hS (by omega) rfl ?_)
      dsimp only [pushR]
      refine wp_iconst dX5_isVoid_36 ?_
      refine wp_icmp_ne 48 dX5_isVoid_37 rfl (by first | assumption | exact hR _ | exact hR2 _ | exact bI_r _ | (unfold r32; omega)) ⟨by omega, by omega⟩ (fun c37 => ?_) (fun c37 => ?_)
      · refine wp_iconst dX5_isVoid_48 ?_
        exact wp_zret dX5_isVoid_49 rfl (Or.inl rfl) (by have e : wVo g s t = _ := (if_pos c8).trans ((if_pos c21).trans (if_neg c37)); rw [e] at hQ; exact hQ)
      · refine wp_iload_n dX5_isVoid_40 rfl ?_
        refine wp_if_ne 48 dX5_isVoid_41 rfl ⟨by omega, by omega⟩ (fun c41 => ?_) (fun c41 => absurd c41 (by omega))
        refine wp_iconst dX5_isVoid_48 ?_
        exact wp_zret dX5_isVoid_49 rfl (Or.inl rfl) (by have e : wVo g s t = _ := (if_pos c8).trans ((if_pos c21).trans (if_pos c37)); rw [e] at hQ; exact hQ)
theorem wVo_01 (g : Int → Int) (s t : Int) : wVo g s t = 0 ∨ wVo g s t = 1 := by
  unfold wVo; (repeat' split) <;> first | exact Or.inl rfl | exact Or.inr rfl
def wSt3 (g : Int → Int) (a k : Int) : Int → Int := if g (36 + a) = 1 then (ud g (sA a k + 11) ((g 0) + (g 7))) else g
set_option maxHeartbeats 2000000 in
theorem sx_wst3 {b : Nat × Nat} {a k : Int} (hS : SA 5 p q h) (hR : ∀ j, r32 (g j)) (ha : 0 ≤ a ∧ a < 6) (hk : 0 ≤ k ∧ k < 10) (hQ : Q none (h.set q (oI 1060 (wSt3 g a k)))) : Wp X kX5_strike 103 [some (vR p), some (vI a), some (vI k), some (vI (sA a k))] [] (h.set q (oI 1060 g)) b Q := by
  have hb1 := sA_b ha hk
  refine wp_aload_n dX5_strike_103 rfl ?_
  refine sa_get hS dX5_strike_104 fX5_11 ?_
  refine wp_bipush dX5_strike_107 rfl ?_
  refine wp_iload_n dX5_strike_109 rfl ?_
  refine wp_iadd dX5_strike_110 ?_
  refine sa_ld (v := g (36 + a)) hS dX5_strike_111 (by decide) (by omega) rfl ?_
  refine wp_iconst dX5_strike_112 ?_
  refine wp_icmp_ne 134 dX5_strike_113 rfl (by first | assumption | exact hR _ | exact hR2 _ | exact bI_r _ | (unfold r32; omega)) ⟨by omega, by omega⟩ (fun c113 => ?_) (fun c113 => ?_)
  · exact wp_ret dX5_strike_134 rfl (by have e : wSt3 g a k = _ := if_neg c113; rw [e] at hQ; exact hQ)
  · refine wp_aload_n dX5_strike_116 rfl ?_
    refine sa_get hS dX5_strike_117 fX5_11 ?_
    refine wp_iload_n dX5_strike_120 rfl ?_
    refine wp_bipush dX5_strike_121 rfl ?_
    refine wp_iadd dX5_strike_123 ?_
    refine wp_aload_n dX5_strike_124 rfl ?_
    refine wp_aload_n dX5_strike_125 rfl ?_
    refine wp_iconst dX5_strike_126 ?_
    refine sa_i1 hS dX5_strike_127 VX5_settingOf lX5_78 (rq0 rfl rfl) (Nat.le_of_ble_eq_true rfl) (C_wsettingOf (v := g 7) hS (by omega) rfl ?_)
    dsimp only [pushR]
    refine sa_i1 hS dX5_strike_130 VX5_endIn lX5_139 (rq0 rfl rfl) (Nat.le_of_ble_eq_true rfl) (C_wendIn (v0 := g 0) hS rfl ?_)
    dsimp only [pushR]
    refine sa_st hS dX5_strike_133 (by decide) (by omega) ?_
    exact wp_ret dX5_strike_134 rfl (by have e : wSt3 g a k = _ := if_pos c113; rw [e] at hQ; exact hQ)
def wSt2 (g : Int → Int) (a k : Int) : Int → Int := if g 0 < g (sA a k + 10) then (ud (ud g (sA a k + 10) 0) 19 (g 19 + 1)) else g
set_option maxHeartbeats 2000000 in
theorem sx_wst2 {b : Nat × Nat} {a k : Int} (hS : SA 5 p q h) (hR : ∀ j, r32 (g j)) (ha : 0 ≤ a ∧ a < 6) (hk : 0 ≤ k ∧ k < 10) (h19 : r32 (g 19 + 1)) (hQ : Q none (h.set q (oI 1060 (wSt3 (wSt2 g a k) a k)))) : Wp X kX5_strike 71 [some (vR p), some (vI a), some (vI k), some (vI (sA a k))] [] (h.set q (oI 1060 g)) b Q := by
  have hb1 := sA_b ha hk
  refine wp_aload_n dX5_strike_71 rfl ?_
  refine wp_iload_n dX5_strike_72 rfl ?_
  refine wp_bipush dX5_strike_73 rfl ?_
  refine wp_iadd dX5_strike_75 ?_
  refine sa_i1 hS dX5_strike_76 VX5_isAhead lX5_35 (rq0 rfl rfl) (Nat.le_of_ble_eq_true rfl) (C_wisAhead (v0 := g 0) (v1 := g (sA a k + 10)) hS (by omega) rfl rfl (by first | assumption | exact hR _ | exact hR2 _ | exact bI_r _ | (unfold r32; omega)) (by first | assumption | exact hR _ | exact hR2 _ | exact bI_r _ | (unfold r32; omega)) ?_)
  dsimp only [pushR]
  refine wp_beq 103 dX5_strike_79 rfl (fun c79 => ?_) (fun c79 => ?_)
  · exact sx_wst3 hS hR ha hk (by have e : wSt2 g a k = _ := if_neg c79; rw [e] at hQ; exact hQ)
  · refine wp_aload_n dX5_strike_82 rfl ?_
    refine sa_get hS dX5_strike_83 fX5_11 ?_
    refine wp_iload_n dX5_strike_86 rfl ?_
    refine wp_bipush dX5_strike_87 rfl ?_
    refine wp_iadd dX5_strike_89 ?_
    refine wp_iconst dX5_strike_90 ?_
    refine sa_st hS dX5_strike_91 (by decide) (by omega) ?_
    refine wp_aload_n dX5_strike_92 rfl ?_
    refine sa_get hS dX5_strike_93 fX5_11 ?_
    refine wp_bipush dX5_strike_96 rfl ?_
    refine wp_dup2 dX5_strike_98 rfl rfl ?_
    refine sa_ld (v := g 19) hS dX5_strike_99 (by decide) (by omega) (by rw [ud_ne (by omega)] <;> rfl) ?_
    refine wp_iconst dX5_strike_100 ?_
    refine wp_iadd dX5_strike_101 ?_
    refine sa_st hS dX5_strike_102 (by decide) (by omega) ?_
    exact sx_wst3 hS (ru (ru hR r32_0) h19) ha hk (by have e : wSt2 g a k = _ := if_pos c79; rw [e] at hQ; exact hQ)
def wSt1 (g : Int → Int) (a k : Int) : Int → Int := if g 0 < g (sA a k + 5) then (ud (ud (ud (ud g (sA a k + 5) 0) (sA a k + 6) (g (sA a k + 0))) (sA a k + 7) ((g 0) + (g 5))) 18 (g 18 + 1)) else g
def wStrike (g : Int → Int) (a k : Int) : Int → Int := wSt3 (wSt2 (wSt1 g a k) a k) a k
set_option maxHeartbeats 2000000 in
theorem C_wstrike {a k : Int} (hS : SA 5 p q h) (hI : IW B g) (hBB : B + 1000 ≤ 1000000000) (ha : 0 ≤ a ∧ a < 6) (hk : 0 ≤ k ∧ k < 10) (hQ : Q none (h.set q (oI 1060 (wStrike g a k)))) : Cl X kX5_strike [vR p, vI a, vI k] (h.set q (oI 1060 g)) Q := by
  refine cl_of rfl (Nat.le_of_ble_eq_true rfl) rfl ?_
  have hR := hI.r (by omega)
  unfold wStrike at hQ
  have hb1 := sA_b ha hk
  have q0 := hI.b 0
  have q5 := hI.b 5
  have q18 := hI.b 18
  have q19 := hI.b 19
  refine wp_iload_n dX5_strike_0 rfl ?_
  refine wp_iload_n dX5_strike_1 rfl ?_
  refine wp_is2 dX5_strike_2 SX5_spotAt lX5_31 (rq0 rfl rfl) (Nat.le_of_ble_eq_true rfl) (C_wspotAt ?_)
  dsimp only [pushR]
  refine wp_istore_n (L' := [some (vR p), some (vI a), some (vI k), some (vI (sA a k))]) dX5_strike_5 (by decide) rfl ?_
  refine wp_aload_n dX5_strike_6 rfl ?_
  refine wp_iload_n dX5_strike_7 rfl ?_
  refine wp_iconst dX5_strike_8 ?_
  refine wp_iadd dX5_strike_9 ?_
  refine sa_i1 hS dX5_strike_10 VX5_isAhead lX5_35 (rq0 rfl rfl) (Nat.le_of_ble_eq_true rfl) (C_wisAhead (v0 := g 0) (v1 := g (sA a k + 5)) hS (by omega) rfl rfl (by first | assumption | exact hR _ | exact hR2 _ | exact bI_r _ | (unfold r32; omega)) (by first | assumption | exact hR _ | exact hR2 _ | exact bI_r _ | (unfold r32; omega)) ?_)
  dsimp only [pushR]
  refine wp_beq 71 dX5_strike_13 rfl (fun c13 => ?_) (fun c13 => ?_)
  · exact sx_wst2 hS hR ha hk (by unfold r32; omega) (by have e : wSt1 g a k = _ := if_neg c13; rw [e] at hQ; exact hQ)
  · refine wp_aload_n dX5_strike_16 rfl ?_
    refine sa_get hS dX5_strike_17 fX5_11 ?_
    refine wp_iload_n dX5_strike_20 rfl ?_
    refine wp_iconst dX5_strike_21 ?_
    refine wp_iadd dX5_strike_22 ?_
    refine wp_iconst dX5_strike_23 ?_
    refine sa_st hS dX5_strike_24 (by decide) (by omega) ?_
    refine wp_aload_n dX5_strike_25 rfl ?_
    refine sa_get hS dX5_strike_26 fX5_11 ?_
    refine wp_iload_n dX5_strike_29 rfl ?_
    refine wp_bipush dX5_strike_30 rfl ?_
    refine wp_iadd dX5_strike_32 ?_
    refine wp_aload_n dX5_strike_33 rfl ?_
    refine sa_get hS dX5_strike_34 fX5_11 ?_
    refine wp_iload_n dX5_strike_37 rfl ?_
    refine wp_iconst dX5_strike_38 ?_
    refine wp_iadd dX5_strike_39 ?_
    refine sa_ld (v := g (sA a k + 0)) hS dX5_strike_40 (by decide) (by omega) (by rw [ud_ne (by omega)] <;> rfl) ?_
    refine sa_st hS dX5_strike_41 (by decide) (by omega) ?_
    refine wp_aload_n dX5_strike_42 rfl ?_
    refine sa_get hS dX5_strike_43 fX5_11 ?_
    refine wp_iload_n dX5_strike_46 rfl ?_
    refine wp_bipush dX5_strike_47 rfl ?_
    refine wp_iadd dX5_strike_49 ?_
    refine wp_aload_n dX5_strike_50 rfl ?_
    refine wp_aload_n dX5_strike_51 rfl ?_
    refine wp_iconst dX5_strike_52 ?_
    refine sa_i1 hS dX5_strike_53 VX5_settingOf lX5_78 (rq0 rfl rfl) (Nat.le_of_ble_eq_true rfl) (C_wsettingOf (v := g 5) hS (by omega) (by rw [ud_ne (by omega), ud_ne (by omega)] <;> rfl) ?_)
    dsimp only [pushR]
    refine sa_i1 hS dX5_strike_56 VX5_endIn lX5_139 (rq0 rfl rfl) (Nat.le_of_ble_eq_true rfl) (C_wendIn (v0 := g 0) hS (by rw [ud_ne (by omega), ud_ne (by omega)] <;> rfl) ?_)
    dsimp only [pushR]
    refine sa_st hS dX5_strike_59 (by decide) (by omega) ?_
    refine wp_aload_n dX5_strike_60 rfl ?_
    refine sa_get hS dX5_strike_61 fX5_11 ?_
    refine wp_bipush dX5_strike_64 rfl ?_
    refine wp_dup2 dX5_strike_66 rfl rfl ?_
    refine sa_ld (v := g 18) hS dX5_strike_67 (by decide) (by omega) (by rw [ud_ne (by omega), ud_ne (by omega), ud_ne (by omega)] <;> rfl) ?_
    refine wp_iconst dX5_strike_68 ?_
    refine wp_iadd dX5_strike_69 ?_
    refine sa_st hS dX5_strike_70 (by decide) (by omega) ?_
    exact sx_wst2 hS (ru (ru (ru (ru hR r32_0) (hR _)) (by unfold r32; omega)) (by unfold r32; omega)) ha hk (by rw [ud_ne (by omega), ud_ne (by omega), ud_ne (by omega), ud_ne (by omega)]; unfold r32; omega) (by have e : wSt1 g a k = _ := if_pos c13; rw [e] at hQ; exact hQ)
theorem iw_st3 {a k : Int} (hI : IW B g) (ha : 0 ≤ a ∧ a < 6) (hk : 0 ≤ k ∧ k < 10) (h7 : g 7 ≤ 100) : IW (B + 100) (wSt3 g a k) := by
  have q0 := hI.b 0
  have q7 := hI.b 7
  unfold wSt3
  split
  · exact (hI.up (by omega)).wr (by unfold CellW sA; omega)
  · exact hI.up (by omega)
theorem iw_st2 {a k : Int} (hI : IW B g) (ha : 0 ≤ a ∧ a < 6) (hk : 0 ≤ k ∧ k < 10) : IW (B + 100) (wSt2 g a k) := by
  have q0 := hI.b 19
  unfold wSt2
  split
  · exact ((hI.up (by omega)).wr (by unfold CellW sA; omega)).wr (by unfold CellW; omega)
  · exact hI.up (by omega)
theorem iw_st1 {a k : Int} (hI : IW B g) (ha : 0 ≤ a ∧ a < 6) (hk : 0 ≤ k ∧ k < 10) (h5 : g 5 ≤ 100) : IW (B + 100) (wSt1 g a k) := by
  have q0 := hI.b 18
  have q1 := hI.b 0
  have q5 := hI.b 5
  have q2 := hI.b (sA a k + 0)
  unfold wSt1
  split
  · exact ((((hI.up (by omega)).wr (by unfold CellW sA; omega)).wr (by unfold CellW; unfold sA at *; omega)).wr (by unfold CellW sA; omega)).wr (by unfold CellW; omega)
  · exact hI.up (by omega)
theorem st3_at {a k j : Int} (ha : 0 ≤ a ∧ a < 6) (hk : 0 ≤ k ∧ k < 10) (h : j < 340) : wSt3 g a k j = g j := by
  have hb := sA_b ha hk
  unfold wSt3
  split
  · rw [ud_ne (by omega)]
  · rfl
theorem st2_at {a k j : Int} (ha : 0 ≤ a ∧ a < 6) (hk : 0 ≤ k ∧ k < 10) (h : j < 340) (h2 : j ≠ 19) : wSt2 g a k j = g j := by
  have hb := sA_b ha hk
  unfold wSt2
  split
  · rw [ud_ne h2, ud_ne (by omega)]
  · rfl
theorem st1_at {a k j : Int} (ha : 0 ≤ a ∧ a < 6) (hk : 0 ≤ k ∧ k < 10) (h : j < 340) (h2 : j ≠ 18) : wSt1 g a k j = g j := by
  have hb := sA_b ha hk
  unfold wSt1
  split
  · rw [ud_ne h2, ud_ne (by omega), ud_ne (by omega), ud_ne (by omega)]
  · rfl
theorem strike_at {a k j : Int} (ha : 0 ≤ a ∧ a < 6) (hk : 0 ≤ k ∧ k < 10) (h : j < 340) (h1 : j ≠ 18) (h2 : j ≠ 19) : wStrike g a k j = g j := by
  unfold wStrike
  rw [st3_at ha hk h, st2_at ha hk h h2, st1_at ha hk h h1]
theorem iw_strike {a k : Int} (hI : IW B g) (ha : 0 ≤ a ∧ a < 6) (hk : 0 ≤ k ∧ k < 10) (h5 : g 5 ≤ 100) (h7 : g 7 ≤ 100) : IW (B + 300) (wStrike g a k) := by
  unfold wStrike
  exact (iw_st3 (iw_st2 (iw_st1 hI ha hk h5) ha hk) ha hk (by rw [st2_at ha hk (by omega) (by omega), st1_at ha hk (by omega) (by omega)]; exact h7)).up (by omega)
def wWrite (g : Int → Int) (c k v : Int) : Int × (Int → Int) := if g 1 < 60 then if (g (cA c + 0)) / 2 = 0 then (g 1 + 1, wStrike (ud (ud (ud (ud (ud g (jA (g 1 + 1) + 0) k) (jA (g 1 + 1) + 1) v) (jA (g 1 + 1) + 2) c) 1 (g 1 + 1)) (102 + k) (g 1 + 1)) (g (cA c + 0)) k) else (g 1 + 1, wStrike (ud (ud (ud (ud (ud (ud g (jA (g 1 + 1) + 0) k) (jA (g 1 + 1) + 1) v) (jA (g 1 + 1) + 2) c) 1 (g 1 + 1)) (102 + k) (g 1 + 1)) (42 + (g (cA c + 0)) / 2 * 10 + k) (g 1 + 1)) (g (cA c + 0)) k) else ((-3), g)
set_option maxHeartbeats 2000000 in
theorem C_wwriteDown {c k v : Int} (hS : SA 5 p q h) (hI : IW B g) (hBB : B + 20000 ≤ 1000000000) (hc : 0 ≤ c ∧ c < 6) (hk : 0 ≤ k ∧ k < 10) (hv : 0 ≤ v ∧ v < 1000) (h5 : g 5 ≤ 100) (h7 : g 7 ≤ 100) (hQ : Q (some (vI (wWrite g c k v).1)) (h.set q (oI 1060 (wWrite g c k v).2))) : Cl X kX5_writeDown [vR p, vI c, vI k, vI v] (h.set q (oI 1060 g)) Q := by
  refine cl_of rfl (Nat.le_of_ble_eq_true rfl) rfl ?_
  have hR := hI.r (by omega)
  have hb1 := cA_b hc
  have hcg := hI.cg hc
  have hb3 : g 1 < 60 → 112 ≤ jA (g 1 + 1) ∧ jA (g 1 + 1) + 3 ≤ 292 := fun q => jA_b (by have := hI.b 1; omega)
  have q1 := hI.b 1
  have hcb := hI.b (cA c + 0)
  refine wp_aload_n dX5_writeDown_0 rfl ?_
  refine sa_i0 hS dX5_writeDown_1 VX5_writes lX5_45 (rq0 rfl rfl) (Nat.le_of_ble_eq_true rfl) (C_wwrites (v := g 1) hS rfl ?_)
  dsimp only [pushR]
  refine wp_bipush dX5_writeDown_4 rfl ?_
  refine wp_icmp_lt 12 dX5_writeDown_6 rfl (by first | assumption | exact hR _ | exact hR2 _ | exact bI_r _ | (unfold r32; omega)) ⟨by omega, by omega⟩ (fun c6 => ?_) (fun c6 => ?_)
  · have hb4 : ¬ g 1 < 60 ∨ (112 ≤ jA (g 1 + 1) ∧ jA (g 1 + 1) + 3 ≤ 292) := (Decidable.em (g 1 < 60)).elim (fun q => Or.inr (hb3 q)) Or.inl
    refine wp_aload_n dX5_writeDown_12 rfl ?_
    refine sa_i0 hS dX5_writeDown_13 VX5_writes lX5_45 (rq0 rfl rfl) (Nat.le_of_ble_eq_true rfl) (C_wwrites (v := g 1) hS rfl ?_)
    dsimp only [pushR]
    refine wp_iconst dX5_writeDown_16 ?_
    refine wp_iadd dX5_writeDown_17 ?_
    refine wp_istore (L' := [some (vR p), some (vI c), some (vI k), some (vI v), some (vI (g 1 + 1)), none, none]) dX5_writeDown_18 (by decide) rfl ?_
    refine wp_iload dX5_writeDown_20 rfl ?_
    refine wp_is1 dX5_writeDown_22 SX5_writeAt lX5_42 (rq0 rfl rfl) (Nat.le_of_ble_eq_true rfl) (C_wwriteAt ?_)
    dsimp only [pushR]
    refine wp_istore (L' := [some (vR p), some (vI c), some (vI k), some (vI v), some (vI (g 1 + 1)), some (vI (jA (g 1 + 1))), none]) dX5_writeDown_25 (by decide) rfl ?_
    refine wp_aload_n dX5_writeDown_27 rfl ?_
    refine sa_get hS dX5_writeDown_28 fX5_11 ?_
    refine wp_iload dX5_writeDown_31 rfl ?_
    refine wp_iconst dX5_writeDown_33 ?_
    refine wp_iadd dX5_writeDown_34 ?_
    refine wp_iload_n dX5_writeDown_35 rfl ?_
    refine sa_st hS dX5_writeDown_36 (by decide) (by omega) ?_
    refine wp_aload_n dX5_writeDown_37 rfl ?_
    refine sa_get hS dX5_writeDown_38 fX5_11 ?_
    refine wp_iload dX5_writeDown_41 rfl ?_
    refine wp_iconst dX5_writeDown_43 ?_
    refine wp_iadd dX5_writeDown_44 ?_
    refine wp_iload_n dX5_writeDown_45 rfl ?_
    refine sa_st hS dX5_writeDown_46 (by decide) (by omega) ?_
    refine wp_aload_n dX5_writeDown_47 rfl ?_
    refine sa_get hS dX5_writeDown_48 fX5_11 ?_
    refine wp_iload dX5_writeDown_51 rfl ?_
    refine wp_iconst dX5_writeDown_53 ?_
    refine wp_iadd dX5_writeDown_54 ?_
    refine wp_iload_n dX5_writeDown_55 rfl ?_
    refine sa_st hS dX5_writeDown_56 (by decide) (by omega) ?_
    refine wp_aload_n dX5_writeDown_57 rfl ?_
    refine sa_get hS dX5_writeDown_58 fX5_11 ?_
    refine wp_iconst dX5_writeDown_61 ?_
    refine wp_iload dX5_writeDown_62 rfl ?_
    refine sa_st hS dX5_writeDown_64 (by decide) (by omega) ?_
    refine wp_aload_n dX5_writeDown_65 rfl ?_
    refine sa_get hS dX5_writeDown_66 fX5_11 ?_
    refine wp_bipush dX5_writeDown_69 rfl ?_
    refine wp_iload_n dX5_writeDown_71 rfl ?_
    refine wp_iadd dX5_writeDown_72 ?_
    refine wp_iload dX5_writeDown_73 rfl ?_
    refine sa_st hS dX5_writeDown_75 (by decide) (by omega) ?_
    refine wp_aload_n dX5_writeDown_76 rfl ?_
    refine wp_iload_n dX5_writeDown_77 rfl ?_
    refine sa_i1 hS dX5_writeDown_78 VX5_groupOf lX5_71 (rq0 rfl rfl) (Nat.le_of_ble_eq_true rfl) (C_wgroupOf (v := g (cA c + 0)) hS (by omega) (by rw [ud_ne (by omega), ud_ne (by omega), ud_ne (by omega), ud_ne (by omega), ud_ne (by omega)] <;> rfl) ?_)
    dsimp only [pushR]
    refine wp_istore (L' := [some (vR p), some (vI c), some (vI k), some (vI v), some (vI (g 1 + 1)), some (vI (jA (g 1 + 1))), some (vI (g (cA c + 0)))]) dX5_writeDown_81 (by decide) rfl ?_
    refine wp_iload dX5_writeDown_83 rfl ?_
    refine wp_iconst dX5_writeDown_85 ?_
    refine wp_idivn dX5_writeDown_86 (by first | assumption | exact hR _ | exact hR2 _ | exact bI_r _ | (unfold r32; omega)) ⟨by omega, by omega⟩ (by omega) (by omega) ?_
    refine wp_if_eq 109 dX5_writeDown_87 rfl (by first | assumption | exact hR _ | exact hR2 _ | exact bI_r _ | (unfold r32; omega)) (fun c87 => ?_) (fun c87 => ?_)
    · refine wp_aload_n dX5_writeDown_109 rfl ?_
      refine wp_iload dX5_writeDown_110 rfl ?_
      refine wp_iload_n dX5_writeDown_112 rfl ?_
      refine sa_i2 hS dX5_writeDown_113 VX5_strike lX5_135 (rq0 rfl rfl) (Nat.le_of_ble_eq_true rfl) (C_wstrike hS ((((((hI.up (show B ≤ B + 1000 by omega)).wr (by have qB := hI.b 0;  first | (unfold CellW; omega) | (unfold CellW sA; omega) | (unfold CellW cA; omega) | (unfold CellW jA; omega))).wr (by have qB := hI.b 0;  first | (unfold CellW; omega) | (unfold CellW sA; omega) | (unfold CellW cA; omega) | (unfold CellW jA; omega))).wr (by have qB := hI.b 0;  first | (unfold CellW; omega) | (unfold CellW sA; omega) | (unfold CellW cA; omega) | (unfold CellW jA; omega))).wr (by have qB := hI.b 0; have q0 := hI.b 1; first | (unfold CellW; omega) | (unfold CellW sA; omega) | (unfold CellW cA; omega) | (unfold CellW jA; omega))).wr (by have qB := hI.b 0; have q0 := hI.b 1; first | (unfold CellW; omega) | (unfold CellW sA; omega) | (unfold CellW cA; omega) | (unfold CellW jA; omega))) (by omega) (by omega) (by omega) ?_)
      dsimp only [pushR]
      refine wp_iload dX5_writeDown_116 rfl ?_
      exact wp_iret dX5_writeDown_118 rfl (by have e : wWrite g c k v = _ := (if_pos c6).trans (if_pos c87); rw [e] at hQ; exact hQ)
    · refine wp_aload_n dX5_writeDown_90 rfl ?_
      refine sa_get hS dX5_writeDown_91 fX5_11 ?_
      refine wp_bipush dX5_writeDown_94 rfl ?_
      refine wp_iload dX5_writeDown_96 rfl ?_
      refine wp_iconst dX5_writeDown_98 ?_
      refine wp_idivn dX5_writeDown_99 (by first | assumption | exact hR _ | exact hR2 _ | exact bI_r _ | (unfold r32; omega)) ⟨by omega, by omega⟩ (by omega) (by omega) ?_
      refine wp_bipush dX5_writeDown_100 rfl ?_
      refine wp_imul dX5_writeDown_102 ?_
      refine wp_iadd dX5_writeDown_103 ?_
      refine wp_iload_n dX5_writeDown_104 rfl ?_
      refine wp_iadd dX5_writeDown_105 ?_
      refine wp_iload dX5_writeDown_106 rfl ?_
      refine sa_st hS dX5_writeDown_108 (by decide) (by omega) ?_
      refine wp_aload_n dX5_writeDown_109 rfl ?_
      refine wp_iload dX5_writeDown_110 rfl ?_
      refine wp_iload_n dX5_writeDown_112 rfl ?_
      refine sa_i2 hS dX5_writeDown_113 VX5_strike lX5_135 (rq0 rfl rfl) (Nat.le_of_ble_eq_true rfl) (C_wstrike hS (((((((hI.up (show B ≤ B + 1000 by omega)).wr (by have qB := hI.b 0;  first | (unfold CellW; omega) | (unfold CellW sA; omega) | (unfold CellW cA; omega) | (unfold CellW jA; omega))).wr (by have qB := hI.b 0;  first | (unfold CellW; omega) | (unfold CellW sA; omega) | (unfold CellW cA; omega) | (unfold CellW jA; omega))).wr (by have qB := hI.b 0;  first | (unfold CellW; omega) | (unfold CellW sA; omega) | (unfold CellW cA; omega) | (unfold CellW jA; omega))).wr (by have qB := hI.b 0; have q0 := hI.b 1; first | (unfold CellW; omega) | (unfold CellW sA; omega) | (unfold CellW cA; omega) | (unfold CellW jA; omega))).wr (by have qB := hI.b 0; have q0 := hI.b 1; first | (unfold CellW; omega) | (unfold CellW sA; omega) | (unfold CellW cA; omega) | (unfold CellW jA; omega))).wr (by have qB := hI.b 0; have q0 := hI.b 1; first | (unfold CellW; omega) | (unfold CellW sA; omega) | (unfold CellW cA; omega) | (unfold CellW jA; omega))) (by omega) (by omega) (by omega) ?_)
      dsimp only [pushR]
      refine wp_iload dX5_writeDown_116 rfl ?_
      exact wp_iret dX5_writeDown_118 rfl (by have e : wWrite g c k v = _ := (if_pos c6).trans (if_neg c87); rw [e] at hQ; exact hQ)
  · have hb4 : ¬ g 1 < 60 ∨ (112 ≤ jA (g 1 + 1) ∧ jA (g 1 + 1) + 3 ≤ 292) := (Decidable.em (g 1 < 60)).elim (fun q => Or.inr (hb3 q)) Or.inl
    refine wp_bipush dX5_writeDown_9 rfl ?_
    exact wp_iret dX5_writeDown_11 rfl (by have e : wWrite g c k v = _ := if_neg c6; rw [e] at hQ; exact hQ)
def wApply (g : Int → Int) (r : Int) : Int × (Int → Int) := if g (30 + r) < g 1 then if g (30 + r) + 1 < (wStrike (wStrike (ud (ud g (30 + r) (g (30 + r) + 1)) (72 + r * 10 + g (jA (g (30 + r) + 1) + 0)) (g (30 + r) + 1)) (2 * r) (g (jA (g (30 + r) + 1) + 0))) (2 * r + 1) (g (jA (g (30 + r) + 1) + 0))) (42 + r * 10 + (g (jA (g (30 + r) + 1) + 0))) then (g (30 + r) + 1, wStrike (wStrike (ud (ud g (30 + r) (g (30 + r) + 1)) (72 + r * 10 + g (jA (g (30 + r) + 1) + 0)) (g (30 + r) + 1)) (2 * r) (g (jA (g (30 + r) + 1) + 0))) (2 * r + 1) (g (jA (g (30 + r) + 1) + 0))) else (g (30 + r) + 1, (ud (wStrike (wStrike (ud (ud g (30 + r) (g (30 + r) + 1)) (72 + r * 10 + g (jA (g (30 + r) + 1) + 0)) (g (30 + r) + 1)) (2 * r) (g (jA (g (30 + r) + 1) + 0))) (2 * r + 1) (g (jA (g (30 + r) + 1) + 0))) (42 + r * 10 + g (jA (g (30 + r) + 1) + 0)) 0)) else ((-2), g)
set_option maxHeartbeats 2000000 in
theorem C_wapplyNext {r : Int} (hS : SA 5 p q h) (hI : IW B g) (hBB : B + 20000 ≤ 1000000000) (hr : 0 ≤ r ∧ r < 3) (h5 : g 5 ≤ 100) (h7 : g 7 ≤ 100) (hQ : Q (some (vI (wApply g r).1)) (h.set q (oI 1060 (wApply g r).2))) : Cl X kX5_applyNext [vR p, vI r] (h.set q (oI 1060 g)) Q := by
  refine cl_of rfl (Nat.le_of_ble_eq_true rfl) rfl ?_
  have hR := hI.r (by omega)
  have q1 := hI.v60 (j := 1) (by omega)
  have q2 := hI.v60 (j := 30 + r) (by omega)
  have q3 := hI.b (30 + r)
  have hb3 : g (30 + r) < g 1 → 112 ≤ jA (g (30 + r) + 1) ∧ jA (g (30 + r) + 1) + 3 ≤ 292 := fun q => jA_b (by omega)
  have hjk : g (30 + r) < g 1 → 0 ≤ g (jA (g (30 + r) + 1) + 0) ∧ g (jA (g (30 + r) + 1) + 0) < 10 := fun q => hI.jk (by omega)
  refine wp_aload_n dX5_applyNext_0 rfl ?_
  refine wp_iload_n dX5_applyNext_1 rfl ?_
  refine sa_i1 hS dX5_applyNext_2 VX5_placeOf lX5_56 (rq0 rfl rfl) (Nat.le_of_ble_eq_true rfl) (C_wplaceOf (v := g (30 + r)) hS (by omega) rfl ?_)
  dsimp only [pushR]
  refine wp_aload_n dX5_applyNext_5 rfl ?_
  refine sa_i0 hS dX5_applyNext_6 VX5_writes lX5_45 (rq0 rfl rfl) (Nat.le_of_ble_eq_true rfl) (C_wwrites (v := g 1) hS rfl ?_)
  dsimp only [pushR]
  refine wp_icmp_lt 15 dX5_applyNext_9 rfl (by first | assumption | exact hR _ | exact hR2 _ | exact bI_r _ | (unfold r32; omega)) (by first | assumption | exact hR _ | exact hR2 _ | exact bI_r _ | (unfold r32; omega)) (fun c9 => ?_) (fun c9 => ?_)
  · refine wp_aload_n dX5_applyNext_15 rfl ?_
    refine wp_iload_n dX5_applyNext_16 rfl ?_
    refine sa_i1 hS dX5_applyNext_17 VX5_placeOf lX5_56 (rq0 rfl rfl) (Nat.le_of_ble_eq_true rfl) (C_wplaceOf (v := g (30 + r)) hS (by omega) rfl ?_)
    dsimp only [pushR]
    refine wp_iconst dX5_applyNext_20 ?_
    refine wp_iadd dX5_applyNext_21 ?_
    refine wp_istore_n (L' := [some (vR p), some (vI r), some (vI (g (30 + r) + 1)), none]) dX5_applyNext_22 (by decide) rfl ?_
    refine wp_aload_n dX5_applyNext_23 rfl ?_
    refine sa_get hS dX5_applyNext_24 fX5_11 ?_
    refine wp_iload_n dX5_applyNext_27 rfl ?_
    refine wp_is1 dX5_applyNext_28 SX5_writeAt lX5_42 (rq0 rfl rfl) (Nat.le_of_ble_eq_true rfl) (C_wwriteAt ?_)
    dsimp only [pushR]
    refine wp_iconst dX5_applyNext_31 ?_
    refine wp_iadd dX5_applyNext_32 ?_
    refine sa_ld (v := g (jA (g (30 + r) + 1) + 0)) hS dX5_applyNext_33 (by decide) (by omega) rfl ?_
    refine wp_istore_n (L' := [some (vR p), some (vI r), some (vI (g (30 + r) + 1)), some (vI (g (jA (g (30 + r) + 1) + 0)))]) dX5_applyNext_34 (by decide) rfl ?_
    refine wp_aload_n dX5_applyNext_35 rfl ?_
    refine sa_get hS dX5_applyNext_36 fX5_11 ?_
    refine wp_bipush dX5_applyNext_39 rfl ?_
    refine wp_iload_n dX5_applyNext_41 rfl ?_
    refine wp_iadd dX5_applyNext_42 ?_
    refine wp_iload_n dX5_applyNext_43 rfl ?_
    refine sa_st hS dX5_applyNext_44 (by decide) (by omega) ?_
    refine wp_aload_n dX5_applyNext_45 rfl ?_
    refine sa_get hS dX5_applyNext_46 fX5_11 ?_
    refine wp_bipush dX5_applyNext_49 rfl ?_
    refine wp_iload_n dX5_applyNext_51 rfl ?_
    refine wp_bipush dX5_applyNext_52 rfl ?_
    refine wp_imul dX5_applyNext_54 ?_
    refine wp_iadd dX5_applyNext_55 ?_
    refine wp_iload_n dX5_applyNext_56 rfl ?_
    refine wp_iadd dX5_applyNext_57 ?_
    refine wp_iload_n dX5_applyNext_58 rfl ?_
    refine sa_st hS dX5_applyNext_59 (by decide) (by omega) ?_
    refine wp_aload_n dX5_applyNext_60 rfl ?_
    refine wp_iconst dX5_applyNext_61 ?_
    refine wp_iload_n dX5_applyNext_62 rfl ?_
    refine wp_imul dX5_applyNext_63 ?_
    refine wp_iload_n dX5_applyNext_64 rfl ?_
    refine sa_i2 hS dX5_applyNext_65 VX5_strike lX5_135 (rq0 rfl rfl) (Nat.le_of_ble_eq_true rfl) (C_wstrike hS (((hI.up (show B ≤ B + 1000 by omega)).wr (by have qB := hI.b 0; have q0 := hI.b (30 + r); first | (unfold CellW; omega) | (unfold CellW sA; omega) | (unfold CellW cA; omega) | (unfold CellW jA; omega))).wr (by have qB := hI.b 0; have q0 := hI.b (30 + r); first | (unfold CellW; omega) | (unfold CellW sA; omega) | (unfold CellW cA; omega) | (unfold CellW jA; omega))) (by omega) (by omega) (by omega) ?_)
    dsimp only [pushR]
    have hI2 := iw_strike (a := 2 * r) (k := g (jA (g (30 + r) + 1) + 0)) (((hI.up (show B ≤ B + 1 by omega)).wr (i := 30 + r) (x := g (30 + r) + 1) (by unfold CellW; omega)).wr (i := 72 + r * 10 + g (jA (g (30 + r) + 1) + 0)) (x := g (30 + r) + 1) (by unfold CellW; omega)) (by omega) (by omega) (by rw [ud_ne (by omega), ud_ne (by omega)]; exact h5) (by rw [ud_ne (by omega), ud_ne (by omega)]; exact h7)
    refine wp_aload_n dX5_applyNext_68 rfl ?_
    refine wp_iconst dX5_applyNext_69 ?_
    refine wp_iload_n dX5_applyNext_70 rfl ?_
    refine wp_imul dX5_applyNext_71 ?_
    refine wp_iconst dX5_applyNext_72 ?_
    refine wp_iadd dX5_applyNext_73 ?_
    refine wp_iload_n dX5_applyNext_74 rfl ?_
    refine sa_i2 hS dX5_applyNext_75 VX5_strike lX5_135 (rq0 rfl rfl) (Nat.le_of_ble_eq_true rfl) (C_wstrike hS hI2 (by omega) (by omega) (by omega) ?_)
    dsimp only [pushR]
    have hI3 := iw_strike (a := 2 * r + 1) (k := g (jA (g (30 + r) + 1) + 0)) hI2 (by omega) (by omega) (by rw [strike_at (by omega) (by omega) (by omega) (by omega) (by omega), ud_ne (by omega), ud_ne (by omega)]; exact h5) (by rw [strike_at (by omega) (by omega) (by omega) (by omega) (by omega), ud_ne (by omega), ud_ne (by omega)]; exact h7)
    have hR2 := hI3.r (by omega)
    refine wp_aload_n dX5_applyNext_78 rfl ?_
    refine wp_iload_n dX5_applyNext_79 rfl ?_
    refine wp_iload_n dX5_applyNext_80 rfl ?_
    refine sa_i2 hS dX5_applyNext_81 VX5_markerOf lX5_105 (rq0 rfl rfl) (Nat.le_of_ble_eq_true rfl) (C_wmarkerOf (v := (wStrike (wStrike (ud (ud g (30 + r) (g (30 + r) + 1)) (72 + r * 10 + g (jA (g (30 + r) + 1) + 0)) (g (30 + r) + 1)) (2 * r) (g (jA (g (30 + r) + 1) + 0))) (2 * r + 1) (g (jA (g (30 + r) + 1) + 0))) (42 + r * 10 + (g (jA (g (30 + r) + 1) + 0)))) hS (by omega) (by omega) rfl ?_)
    dsimp only [pushR]
    refine wp_iload_n dX5_applyNext_84 rfl ?_
    refine wp_icmp_gt 103 dX5_applyNext_85 rfl (by first | assumption | exact hR _ | exact hR2 _ | exact bI_r _ | (unfold r32; omega)) (by first | assumption | exact hR _ | exact hR2 _ | exact bI_r _ | (unfold r32; omega)) (fun c85 => ?_) (fun c85 => ?_)
    · refine wp_iload_n dX5_applyNext_103 rfl ?_
      exact wp_iret dX5_applyNext_104 rfl (by have e : wApply g r = _ := (if_pos c9).trans (if_pos c85); rw [e] at hQ; exact hQ)
    · refine wp_aload_n dX5_applyNext_88 rfl ?_
      refine sa_get hS dX5_applyNext_89 fX5_11 ?_
      refine wp_bipush dX5_applyNext_92 rfl ?_
      refine wp_iload_n dX5_applyNext_94 rfl ?_
      refine wp_bipush dX5_applyNext_95 rfl ?_
      refine wp_imul dX5_applyNext_97 ?_
      refine wp_iadd dX5_applyNext_98 ?_
      refine wp_iload_n dX5_applyNext_99 rfl ?_
      refine wp_iadd dX5_applyNext_100 ?_
      refine wp_iconst dX5_applyNext_101 ?_
      refine sa_st hS dX5_applyNext_102 (by decide) (by omega) ?_
      refine wp_iload_n dX5_applyNext_103 rfl ?_
      exact wp_iret dX5_applyNext_104 rfl (by have e : wApply g r = _ := (if_pos c9).trans (if_neg c85); rw [e] at hQ; exact hQ)
  · refine wp_bipush dX5_applyNext_12 rfl ?_
    exact wp_iret dX5_applyNext_14 rfl (by have e : wApply g r = _ := if_neg c9; rw [e] at hQ; exact hQ)
def cdW (a v : Int) : Nat → (Int → Int) → Int → (Int → Int)
  | 0, g, _ => g
  | m + 1, g, k => if v = 1 then cdW a v m (ud (ud (ud (ud g (sA a k + 11) 0) (sA a k + 5) 0) (sA a k + 7) 0) (sA a k + 10) 0) (k + 1) else cdW a v m (ud g (sA a k + 11) 0) (k + 1)
set_option maxHeartbeats 4000000 in
theorem lp_cdW {b : Nat × Nat} {a v : Int} (hS : SA 5 p q h) {w : Int} (ha : 0 ≤ a ∧ a < 6) (hv : 0 ≤ v ∧ v ≤ 1) : ∀ (m : Nat) (g : Int → Int) (B : Int) (k : Int), k + m = 10 ∧ 0 ≤ k → IW B g → B + 1000 * m + 20000 ≤ 1000000000 → Q (some (vI w)) (h.set q (oI 1060 (cdW a v m g k))) → Wp X kX5_turn 30 [some (vR p), some (vI a), some (vI v), some (vI w), some (vI k), none] [] (h.set q (oI 1060 g)) b Q := by
  intro m
  induction m with
  | zero =>
    intro g B k h1 hI hBB hQ
    have hR := hI.r (by omega)
    obtain rfl : k = 10 := by omega
    refine wp_iload dX5_turn_30 rfl ?_
    refine wp_bipush dX5_turn_32 rfl ?_
    refine wp_icmp_ge 99 dX5_turn_34 rfl (by first | assumption | exact hR _ | exact hR2 _ | exact bI_r _ | (unfold r32; omega)) ⟨by omega, by omega⟩ (fun c34 => ?_) (fun c34 => ?_)
    · refine wp_iload_n dX5_turn_99 rfl ?_
      exact wp_iret dX5_turn_100 rfl (by have e : cdW a v 0 g 10 = _ := rfl; rw [e] at hQ; exact hQ)
    · omega
  | succ m ih =>
    intro g B k h1 hI hBB hQ
    have hR := hI.r (by omega)
    have hb1 := sA_b (k := k) ha ⟨h1.2, by omega⟩
    refine wp_iload dX5_turn_30 rfl ?_
    refine wp_bipush dX5_turn_32 rfl ?_
    refine wp_icmp_ge 99 dX5_turn_34 rfl (by first | assumption | exact hR _ | exact hR2 _ | exact bI_r _ | (unfold r32; omega)) ⟨by omega, by omega⟩ (fun c34 => ?_) (fun c34 => ?_)
    · omega
    · refine wp_iload_n dX5_turn_37 rfl ?_
      refine wp_iload dX5_turn_38 rfl ?_
      refine wp_is2 dX5_turn_40 SX5_spotAt lX5_31 (rq0 rfl rfl) (Nat.le_of_ble_eq_true rfl) (C_wspotAt ?_)
      dsimp only [pushR]
      refine wp_istore (L' := [some (vR p), some (vI a), some (vI v), some (vI w), some (vI k), some (vI (sA a k))]) dX5_turn_43 (by decide) rfl ?_
      refine wp_aload_n dX5_turn_45 rfl ?_
      refine sa_get hS dX5_turn_46 fX5_11 ?_
      refine wp_iload dX5_turn_49 rfl ?_
      refine wp_bipush dX5_turn_51 rfl ?_
      refine wp_iadd dX5_turn_53 ?_
      refine wp_iconst dX5_turn_54 ?_
      refine sa_st hS dX5_turn_55 (by decide) (by omega) ?_
      refine wp_iload_n dX5_turn_56 rfl ?_
      refine wp_iconst dX5_turn_57 ?_
      refine wp_icmp_ne 93 dX5_turn_58 rfl (by first | assumption | exact hR _ | exact hR2 _ | exact bI_r _ | (unfold r32; omega)) ⟨by omega, by omega⟩ (fun c58 => ?_) (fun c58 => ?_)
      · refine wp_iinc (L' := [some (vR p), some (vI a), some (vI v), some (vI w), some (vI (k + 1)), some (vI (sA a k))]) dX5_turn_93 rfl rfl ?_
        refine wp_goto 30 dX5_turn_96 rfl ?_
        refine wp_drop (L' := [some (vR p), some (vI a), some (vI v), some (vI w), some (vI (k + 1)), none]) 5 rfl ?_
        exact ih _ (B + 1000) _ (by omega) ((hI.up (show B ≤ B + 1000 by omega)).wr (by have qB := hI.b 0;  first | (unfold CellW; omega) | (unfold CellW sA; omega) | (unfold CellW cA; omega) | (unfold CellW jA; omega))) (by omega) (by have e : cdW a v (m + 1) g k = _ := if_neg c58; rw [e] at hQ; exact hQ)
      · refine wp_aload_n dX5_turn_61 rfl ?_
        refine sa_get hS dX5_turn_62 fX5_11 ?_
        refine wp_iload dX5_turn_65 rfl ?_
        refine wp_iconst dX5_turn_67 ?_
        refine wp_iadd dX5_turn_68 ?_
        refine wp_iconst dX5_turn_69 ?_
        refine sa_st hS dX5_turn_70 (by decide) (by omega) ?_
        refine wp_aload_n dX5_turn_71 rfl ?_
        refine sa_get hS dX5_turn_72 fX5_11 ?_
        refine wp_iload dX5_turn_75 rfl ?_
        refine wp_bipush dX5_turn_77 rfl ?_
        refine wp_iadd dX5_turn_79 ?_
        refine wp_iconst dX5_turn_80 ?_
        refine sa_st hS dX5_turn_81 (by decide) (by omega) ?_
        refine wp_aload_n dX5_turn_82 rfl ?_
        refine sa_get hS dX5_turn_83 fX5_11 ?_
        refine wp_iload dX5_turn_86 rfl ?_
        refine wp_bipush dX5_turn_88 rfl ?_
        refine wp_iadd dX5_turn_90 ?_
        refine wp_iconst dX5_turn_91 ?_
        refine sa_st hS dX5_turn_92 (by decide) (by omega) ?_
        refine wp_iinc (L' := [some (vR p), some (vI a), some (vI v), some (vI w), some (vI (k + 1)), some (vI (sA a k))]) dX5_turn_93 rfl rfl ?_
        refine wp_goto 30 dX5_turn_96 rfl ?_
        refine wp_drop (L' := [some (vR p), some (vI a), some (vI v), some (vI w), some (vI (k + 1)), none]) 5 rfl ?_
        exact ih _ (B + 1000) _ (by omega) (((((hI.up (show B ≤ B + 1000 by omega)).wr (by have qB := hI.b 0;  first | (unfold CellW; omega) | (unfold CellW sA; omega) | (unfold CellW cA; omega) | (unfold CellW jA; omega))).wr (by have qB := hI.b 0;  first | (unfold CellW; omega) | (unfold CellW sA; omega) | (unfold CellW cA; omega) | (unfold CellW jA; omega))).wr (by have qB := hI.b 0;  first | (unfold CellW; omega) | (unfold CellW sA; omega) | (unfold CellW cA; omega) | (unfold CellW jA; omega))).wr (by have qB := hI.b 0;  first | (unfold CellW; omega) | (unfold CellW sA; omega) | (unfold CellW cA; omega) | (unfold CellW jA; omega))) (by omega) (by have e : cdW a v (m + 1) g k = _ := if_pos c58; rw [e] at hQ; exact hQ)
def wTurn (g : Int → Int) (a v : Int) : Int → Int := if g (36 + a) = v then g else cdW a v 10 (ud g (36 + a) v) 0
set_option maxHeartbeats 2000000 in
theorem C_wturn {a v : Int} (hS : SA 5 p q h) (hI : IW B g) (hBB : B + 40000 ≤ 1000000000) (ha : 0 ≤ a ∧ a < 6) (hv : 0 ≤ v ∧ v ≤ 1) (hQ : Q (some (vI ((g (36 + a), wTurn g a v)).1)) (h.set q (oI 1060 ((g (36 + a), wTurn g a v)).2))) : Cl X kX5_turn [vR p, vI a, vI v] (h.set q (oI 1060 g)) Q := by
  refine cl_of rfl (Nat.le_of_ble_eq_true rfl) rfl ?_
  have hR := hI.r (by omega)
  refine wp_aload_n dX5_turn_0 rfl ?_
  refine sa_get hS dX5_turn_1 fX5_11 ?_
  refine wp_bipush dX5_turn_4 rfl ?_
  refine wp_iload_n dX5_turn_6 rfl ?_
  refine wp_iadd dX5_turn_7 ?_
  refine sa_ld (v := g (36 + a)) hS dX5_turn_8 (by decide) (by omega) rfl ?_
  refine wp_istore_n (L' := [some (vR p), some (vI a), some (vI v), some (vI (g (36 + a))), none, none]) dX5_turn_9 (by decide) rfl ?_
  refine wp_iload_n dX5_turn_10 rfl ?_
  refine wp_iload_n dX5_turn_11 rfl ?_
  refine wp_icmp_ne 17 dX5_turn_12 rfl (by first | assumption | exact hR _ | exact hR2 _ | exact bI_r _ | (unfold r32; omega)) (by first | assumption | exact hR _ | exact hR2 _ | exact bI_r _ | (unfold r32; omega)) (fun c12 => ?_) (fun c12 => ?_)
  · refine wp_aload_n dX5_turn_17 rfl ?_
    refine sa_get hS dX5_turn_18 fX5_11 ?_
    refine wp_bipush dX5_turn_21 rfl ?_
    refine wp_iload_n dX5_turn_23 rfl ?_
    refine wp_iadd dX5_turn_24 ?_
    refine wp_iload_n dX5_turn_25 rfl ?_
    refine sa_st hS dX5_turn_26 (by decide) (by omega) ?_
    refine wp_iconst dX5_turn_27 ?_
    refine wp_istore (L' := [some (vR p), some (vI a), some (vI v), some (vI (g (36 + a))), some (vI 0), none]) dX5_turn_28 (by decide) rfl ?_
    exact lp_cdW hS ha hv 10 _ (B + 1000) 0 ⟨by omega, by omega⟩ ((hI.up (show B ≤ B + 1000 by omega)).wr (by have qB := hI.b 0;  first | (unfold CellW; omega) | (unfold CellW sA; omega) | (unfold CellW cA; omega) | (unfold CellW jA; omega))) (by omega) (by have e : wTurn g a v = _ := if_neg c12; rw [e] at hQ; exact hQ)
  · refine wp_iload_n dX5_turn_15 rfl ?_
    exact wp_iret dX5_turn_16 rfl (by have e : wTurn g a v = _ := if_pos c12; rw [e] at hQ; exact hQ)
theorem wLkL_b {a y t : Int} : ∀ (m : Nat) (k z u : Int), k + m = 10 → 0 ≤ k → (z = -2 ∨ 0 ≤ z ∧ z < 10) → (wLkL g a y t m k z u = -2 ∨ 0 ≤ wLkL g a y t m k z u ∧ wLkL g a y t m k z u < 10) := by
  intro m
  induction m with
  | zero => intro k z u h1 h2 h3; exact h3
  | succ m ih =>
    intro k z u h1 h2 h3
    unfold wLkL
    (repeat' split) <;> exact ih _ _ _ (by omega) (by omega) (by omega)
theorem wLk_b (g : Int → Int) (a t : Int) : wLk g a t = -2 ∨ 0 ≤ wLk g a t ∧ wLk g a t < 10 := wLkL_b 10 0 (-2) 0 (by omega) (by omega) (Or.inl rfl)
def finW (g : Int → Int) (a k v n : Int) : Int → Int := (ud (ud (ud (ud (ud (ud (ud g (sA a k + 0) v) (sA a k + 1) n) (sA a k + 2) (g 0)) (sA a k + 3) (g 0)) (sA a k + 4) 0) (sA a k + 5) (g 0 + g 4)) 14 (g 14 + 1))
set_option maxHeartbeats 2000000 in
theorem sx_wfin {b : Nat × Nat} {a k v n : Int} (hS : SA 5 p q h) {t l : Int} (hI : IW B g) (hBB : B + 1000 ≤ 1000000000) (ha : 0 ≤ a ∧ a < 6) (hk : 0 ≤ k ∧ k < 10) (hQ : Q none (h.set q (oI 1060 (finW g a k v n)))) : Wp X kX5_install 104 [some (vR p), some (vI a), some (vI k), some (vI v), some (vI n), some (vI t), some (vI (sA a k)), some (vI l), none] [] (h.set q (oI 1060 g)) b Q := by
  have hb1 := sA_b ha hk
  refine wp_aload_n dX5_install_104 rfl ?_
  refine sa_get hS dX5_install_105 fX5_11 ?_
  refine wp_iload dX5_install_108 rfl ?_
  refine wp_iconst dX5_install_110 ?_
  refine wp_iadd dX5_install_111 ?_
  refine wp_iload_n dX5_install_112 rfl ?_
  refine sa_st hS dX5_install_113 (by decide) (by omega) ?_
  refine wp_aload_n dX5_install_114 rfl ?_
  refine sa_get hS dX5_install_115 fX5_11 ?_
  refine wp_iload dX5_install_118 rfl ?_
  refine wp_iconst dX5_install_120 ?_
  refine wp_iadd dX5_install_121 ?_
  refine wp_iload dX5_install_122 rfl ?_
  refine sa_st hS dX5_install_124 (by decide) (by omega) ?_
  refine wp_aload_n dX5_install_125 rfl ?_
  refine sa_get hS dX5_install_126 fX5_11 ?_
  refine wp_iload dX5_install_129 rfl ?_
  refine wp_iconst dX5_install_131 ?_
  refine wp_iadd dX5_install_132 ?_
  refine wp_aload_n dX5_install_133 rfl ?_
  refine sa_i0 hS dX5_install_134 VX5_now lX5_91 (rq0 rfl rfl) (Nat.le_of_ble_eq_true rfl) (C_wnow (v := g 0) hS (by rw [ud_ne (by omega), ud_ne (by omega)] <;> rfl) ?_)
  dsimp only [pushR]
  refine sa_st hS dX5_install_137 (by decide) (by omega) ?_
  refine wp_aload_n dX5_install_138 rfl ?_
  refine sa_get hS dX5_install_139 fX5_11 ?_
  refine wp_iload dX5_install_142 rfl ?_
  refine wp_iconst dX5_install_144 ?_
  refine wp_iadd dX5_install_145 ?_
  refine wp_aload_n dX5_install_146 rfl ?_
  refine sa_i0 hS dX5_install_147 VX5_now lX5_91 (rq0 rfl rfl) (Nat.le_of_ble_eq_true rfl) (C_wnow (v := g 0) hS (by rw [ud_ne (by omega), ud_ne (by omega), ud_ne (by omega)] <;> rfl) ?_)
  dsimp only [pushR]
  refine sa_st hS dX5_install_150 (by decide) (by omega) ?_
  refine wp_aload_n dX5_install_151 rfl ?_
  refine sa_get hS dX5_install_152 fX5_11 ?_
  refine wp_iload dX5_install_155 rfl ?_
  refine wp_iconst dX5_install_157 ?_
  refine wp_iadd dX5_install_158 ?_
  refine wp_iconst dX5_install_159 ?_
  refine sa_st hS dX5_install_160 (by decide) (by omega) ?_
  refine wp_aload_n dX5_install_161 rfl ?_
  refine sa_get hS dX5_install_162 fX5_11 ?_
  refine wp_iload dX5_install_165 rfl ?_
  refine wp_iconst dX5_install_167 ?_
  refine wp_iadd dX5_install_168 ?_
  refine wp_aload_n dX5_install_169 rfl ?_
  refine sa_i0 hS dX5_install_170 VX5_now lX5_91 (rq0 rfl rfl) (Nat.le_of_ble_eq_true rfl) (C_wnow (v := g 0) hS (by rw [ud_ne (by omega), ud_ne (by omega), ud_ne (by omega), ud_ne (by omega), ud_ne (by omega)] <;> rfl) ?_)
  dsimp only [pushR]
  refine wp_aload_n dX5_install_173 rfl ?_
  refine wp_iconst dX5_install_174 ?_
  refine sa_i1 hS dX5_install_175 VX5_settingOf lX5_78 (rq0 rfl rfl) (Nat.le_of_ble_eq_true rfl) (C_wsettingOf (v := g 4) hS (by omega) (by rw [ud_ne (by omega), ud_ne (by omega), ud_ne (by omega), ud_ne (by omega), ud_ne (by omega)] <;> rfl) ?_)
  dsimp only [pushR]
  refine wp_iadd dX5_install_178 ?_
  refine sa_st hS dX5_install_179 (by decide) (by omega) ?_
  refine wp_aload_n dX5_install_180 rfl ?_
  refine sa_get hS dX5_install_181 fX5_11 ?_
  refine wp_bipush dX5_install_184 rfl ?_
  refine wp_dup2 dX5_install_186 rfl rfl ?_
  refine sa_ld (v := g 14) hS dX5_install_187 (by decide) (by omega) (by rw [ud_ne (by omega), ud_ne (by omega), ud_ne (by omega), ud_ne (by omega), ud_ne (by omega), ud_ne (by omega)] <;> rfl) ?_
  refine wp_iconst dX5_install_188 ?_
  refine wp_iadd dX5_install_189 ?_
  refine sa_st hS dX5_install_190 (by decide) (by omega) ?_
  exact wp_ret dX5_install_191 rfl hQ
/-- the entries that give way: the loop's own steps -/
def evW (a t : Int) : Nat → (Int → Int) → Int → (Int → Int)
  | 0, g, _ => g
  | m + 1, g, l => if l < g 3 then g else if wLk g a t < 0 then evW a t m g (l + (-1)) else evW a t m (ud (ud g (sA a (wLk g a t) + 5) 0) 17 (g 17 + 1)) (l + (-1))
set_option maxHeartbeats 4000000 in
theorem lp_evW {b : Nat × Nat} {a t : Int} (hS : SA 5 p q h) {k v n : Int} (ha : 0 ≤ a ∧ a < 6) (hk : 0 ≤ k ∧ k < 10) (ht : 0 ≤ t ∧ t < 4) : ∀ (m : Nat) (g : Int → Int) (B : Int) (l : Int), l + 1 ≤ m ∧ -100 ≤ l ∧ l ≤ 100 → IW B g → B + 1000 * m + 20000 ≤ 1000000000 → (0 ≤ g 3) → (-1 ≤ l) → Q none (h.set q (oI 1060 (finW (evW a t m g l) a k v n))) → Wp X kX5_install 49 [some (vR p), some (vI a), some (vI k), some (vI v), some (vI n), some (vI t), some (vI (sA a k)), some (vI l), none] [] (h.set q (oI 1060 g)) b Q := by
  intro m
  induction m with
  | zero =>
    intro g B l h1 hI hBB h3 h4 hQ
    have hR := hI.r (by omega)
    refine wp_iload dX5_install_49 rfl ?_
    refine wp_aload_n dX5_install_51 rfl ?_
    refine wp_iconst dX5_install_52 ?_
    refine sa_i1 hS dX5_install_53 VX5_settingOf lX5_78 (rq0 rfl rfl) (Nat.le_of_ble_eq_true rfl) (C_wsettingOf (v := g 3) hS (by omega) rfl ?_)
    dsimp only [pushR]
    refine wp_icmp_lt 104 dX5_install_56 rfl (by first | assumption | exact hR _ | exact hR2 _ | exact bI_r _ | (unfold r32; omega)) (by first | assumption | exact hR _ | exact hR2 _ | exact bI_r _ | (unfold r32; omega)) (fun c56 => ?_) (fun c56 => ?_)
    · exact sx_wfin (l := l) hS hI (by omega) ha hk (by have e : evW a t 0 g l = _ := rfl; rw [e] at hQ; exact hQ)
    · omega
  | succ m ih =>
    intro g B l h1 hI hBB h3 h4 hQ
    have hR := hI.r (by omega)
    have hlk := wLk_b g a t
    have hr8 : r32 (wLk g a t) := by unfold r32; omega
    have hb1 : 0 ≤ wLk g a t → 340 ≤ sA a (wLk g a t) ∧ sA a (wLk g a t) + 12 ≤ 1060 := fun q => sA_b ha ⟨q, by omega⟩
    have hc1 := hI.b 17
    refine wp_iload dX5_install_49 rfl ?_
    refine wp_aload_n dX5_install_51 rfl ?_
    refine wp_iconst dX5_install_52 ?_
    refine sa_i1 hS dX5_install_53 VX5_settingOf lX5_78 (rq0 rfl rfl) (Nat.le_of_ble_eq_true rfl) (C_wsettingOf (v := g 3) hS (by omega) rfl ?_)
    dsimp only [pushR]
    refine wp_icmp_lt 104 dX5_install_56 rfl (by first | assumption | exact hR _ | exact hR2 _ | exact bI_r _ | (unfold r32; omega)) (by first | assumption | exact hR _ | exact hR2 _ | exact bI_r _ | (unfold r32; omega)) (fun c56 => ?_) (fun c56 => ?_)
    · exact sx_wfin (l := l) hS hI (by omega) ha hk (by have e : evW a t (m + 1) g l = _ := if_pos c56; rw [e] at hQ; exact hQ)
    · refine wp_aload_n dX5_install_59 rfl ?_
      refine wp_iload_n dX5_install_60 rfl ?_
      refine wp_iload dX5_install_61 rfl ?_
      refine sa_i2 hS dX5_install_63 VX5_leastKey lX5_132 (rq0 rfl rfl) (Nat.le_of_ble_eq_true rfl) (C_wleastKey hS hI (by omega) (by omega) (by omega) ?_)
      dsimp only [pushR]
      refine wp_istore (L' := [some (vR p), some (vI a), some (vI k), some (vI v), some (vI n), some (vI t), some (vI (sA a k)), some (vI l), some (vI (wLk g a t))]) dX5_install_66 (by decide) rfl ?_
      refine wp_iload dX5_install_68 rfl ?_
      refine wp_if_lt 98 dX5_install_70 rfl hr8 (fun c70 => ?_) (fun c70 => ?_)
      · refine wp_iinc (L' := [some (vR p), some (vI a), some (vI k), some (vI v), some (vI n), some (vI t), some (vI (sA a k)), some (vI (l + (-1))), some (vI (wLk g a t))]) dX5_install_98 rfl rfl ?_
        refine wp_goto 49 dX5_install_101 rfl ?_
        refine wp_drop (L' := [some (vR p), some (vI a), some (vI k), some (vI v), some (vI n), some (vI t), some (vI (sA a k)), some (vI (l + (-1))), none]) 8 rfl ?_
        exact ih _ (B + 1000) _ (by omega) (hI.up (by omega)) (by omega) h3 (by omega) (by have e : evW a t (m + 1) g l = _ := (if_neg c56).trans (if_pos c70); rw [e] at hQ; exact hQ)
      · refine wp_aload_n dX5_install_73 rfl ?_
        refine sa_get hS dX5_install_74 fX5_11 ?_
        refine wp_iload_n dX5_install_77 rfl ?_
        refine wp_iload dX5_install_78 rfl ?_
        refine wp_is2 dX5_install_80 SX5_spotAt lX5_31 (rq0 rfl rfl) (Nat.le_of_ble_eq_true rfl) (C_wspotAt ?_)
        dsimp only [pushR]
        refine wp_iconst dX5_install_83 ?_
        refine wp_iadd dX5_install_84 ?_
        refine wp_iconst dX5_install_85 ?_
        refine sa_st hS dX5_install_86 (by decide) (by omega) ?_
        refine wp_aload_n dX5_install_87 rfl ?_
        refine sa_get hS dX5_install_88 fX5_11 ?_
        refine wp_bipush dX5_install_91 rfl ?_
        refine wp_dup2 dX5_install_93 rfl rfl ?_
        refine sa_ld (v := g 17) hS dX5_install_94 (by decide) (by omega) (by rw [ud_ne (by omega)] <;> rfl) ?_
        refine wp_iconst dX5_install_95 ?_
        refine wp_iadd dX5_install_96 ?_
        refine sa_st hS dX5_install_97 (by decide) (by omega) ?_
        refine wp_iinc (L' := [some (vR p), some (vI a), some (vI k), some (vI v), some (vI n), some (vI t), some (vI (sA a k)), some (vI (l + (-1))), some (vI (wLk g a t))]) dX5_install_98 rfl rfl ?_
        refine wp_goto 49 dX5_install_101 rfl ?_
        refine wp_drop (L' := [some (vR p), some (vI a), some (vI k), some (vI v), some (vI n), some (vI t), some (vI (sA a k)), some (vI (l + (-1))), none]) 8 rfl ?_
        exact ih _ (B + 1000) _ (by omega) (((hI.up (show B ≤ B + 1000 by omega)).wr (by have qB := hI.b 0;  first | (unfold CellW; omega) | (unfold CellW sA; omega) | (unfold CellW cA; omega) | (unfold CellW jA; omega))).wr (by have qB := hI.b 0; have q0 := hI.b 17; first | (unfold CellW; omega) | (unfold CellW sA; omega) | (unfold CellW cA; omega) | (unfold CellW jA; omega))) (by omega) (by rw [ud_ne (by omega), ud_ne (by omega)]; exact h3) (by omega) (by have e : evW a t (m + 1) g l = _ := (if_neg c56).trans (if_neg c70); rw [e] at hQ; exact hQ)
def an32 (x y : Int) : Int := (Int32.ofInt x &&& Int32.ofInt y).toInt
theorem an32_h (x y : Int) : Int32.ofInt x &&& Int32.ofInt y = Int32.ofInt (an32 x y) := (Int32.ofInt_toInt _).symm
def sr32 (x y : Int) : Int := (((Int32.ofInt x).toUInt32 >>> ((Int32.ofInt y).toUInt32 &&& Int32.toUInt32 31)).toInt32).toInt
theorem sr32_h (x y : Int) : ((Int32.ofInt x).toUInt32 >>> ((Int32.ofInt y).toUInt32 &&& Int32.toUInt32 31)).toInt32 = Int32.ofInt (sr32 x y) := (Int32.ofInt_toInt _).symm
/-- the bits 0 to 9 that stand in x -/
def bc10 (x : Int) : Int := x % 2 + x / 2 % 2 + x / 4 % 2 + x / 8 % 2 + x / 16 % 2 + x / 32 % 2 + x / 64 % 2 + x / 128 % 2 + x / 256 % 2 + x / 512 % 2
theorem bc_fin : ∀ n : Fin 1024, (fun x : Int => an32 (an32 (an32 (x - an32 (sr32 x 1) 1431655765) 858993459 + an32 (sr32 (x - an32 (sr32 x 1) 1431655765) 2) 858993459 + sr32 (an32 (x - an32 (sr32 x 1) 1431655765) 858993459 + an32 (sr32 (x - an32 (sr32 x 1) 1431655765) 2) 858993459) 4) 252645135 + sr32 (an32 (an32 (x - an32 (sr32 x 1) 1431655765) 858993459 + an32 (sr32 (x - an32 (sr32 x 1) 1431655765) 2) 858993459 + sr32 (an32 (x - an32 (sr32 x 1) 1431655765) 858993459 + an32 (sr32 (x - an32 (sr32 x 1) 1431655765) 2) 858993459) 4) 252645135) 8 + sr32 (an32 (an32 (x - an32 (sr32 x 1) 1431655765) 858993459 + an32 (sr32 (x - an32 (sr32 x 1) 1431655765) 2) 858993459 + sr32 (an32 (x - an32 (sr32 x 1) 1431655765) 858993459 + an32 (sr32 (x - an32 (sr32 x 1) 1431655765) 2) 858993459) 4) 252645135 + sr32 (an32 (an32 (x - an32 (sr32 x 1) 1431655765) 858993459 + an32 (sr32 (x - an32 (sr32 x 1) 1431655765) 2) 858993459 + sr32 (an32 (x - an32 (sr32 x 1) 1431655765) 858993459 + an32 (sr32 (x - an32 (sr32 x 1) 1431655765) 2) 858993459) 4) 252645135) 8) 16) 63) (n.val : Int) = bc10 (n.val : Int) := by decide +kernel
theorem bc_eq {x : Int} (h : 0 ≤ x ∧ x < 1024) : an32 (an32 (an32 (x - an32 (sr32 x 1) 1431655765) 858993459 + an32 (sr32 (x - an32 (sr32 x 1) 1431655765) 2) 858993459 + sr32 (an32 (x - an32 (sr32 x 1) 1431655765) 858993459 + an32 (sr32 (x - an32 (sr32 x 1) 1431655765) 2) 858993459) 4) 252645135 + sr32 (an32 (an32 (x - an32 (sr32 x 1) 1431655765) 858993459 + an32 (sr32 (x - an32 (sr32 x 1) 1431655765) 2) 858993459 + sr32 (an32 (x - an32 (sr32 x 1) 1431655765) 858993459 + an32 (sr32 (x - an32 (sr32 x 1) 1431655765) 2) 858993459) 4) 252645135) 8 + sr32 (an32 (an32 (x - an32 (sr32 x 1) 1431655765) 858993459 + an32 (sr32 (x - an32 (sr32 x 1) 1431655765) 2) 858993459 + sr32 (an32 (x - an32 (sr32 x 1) 1431655765) 858993459 + an32 (sr32 (x - an32 (sr32 x 1) 1431655765) 2) 858993459) 4) 252645135 + sr32 (an32 (an32 (x - an32 (sr32 x 1) 1431655765) 858993459 + an32 (sr32 (x - an32 (sr32 x 1) 1431655765) 2) 858993459 + sr32 (an32 (x - an32 (sr32 x 1) 1431655765) 858993459 + an32 (sr32 (x - an32 (sr32 x 1) 1431655765) 2) 858993459) 4) 252645135) 8) 16) 63 = bc10 x := by
  have q := bc_fin ⟨x.toNat, by omega⟩
  have e : ((x.toNat : Nat) : Int) = x := by omega
  simp only [e] at q
  exact q
set_option maxHeartbeats 2000000 in
theorem C_bitCount {x : Int} (hx : 0 ≤ x ∧ x < 1024) (hQ : Q (some (vI (bc10 x))) h) : Cl X kJ6_bitCount_0f7a4 [vI x] h Q := by
  refine cl_of rfl (Nat.le_of_ble_eq_true rfl) rfl ?_
  rw [← bc_eq hx] at hQ
  refine wp_iload_n dJ6_bitCount_0f7a4_0 rfl ?_
  refine wp_iload_n dJ6_bitCount_0f7a4_1 rfl ?_
  refine wp_iconst dJ6_bitCount_0f7a4_2 ?_
  refine wp_iushr (z := sr32 x 1) dJ6_bitCount_0f7a4_3 (sr32_h _ _) ?_
  refine wp_ldcw dJ6_bitCount_0f7a4_4 cJ6_265 ?_
  refine wp_iand (z := an32 (sr32 x 1) 1431655765) dJ6_bitCount_0f7a4_7 (an32_h _ _) ?_
  refine wp_isub dJ6_bitCount_0f7a4_8 ?_
  refine wp_istore_n (L' := [some (vI (x - an32 (sr32 x 1) 1431655765))]) dJ6_bitCount_0f7a4_9 (by decide) rfl ?_
  refine wp_iload_n dJ6_bitCount_0f7a4_10 rfl ?_
  refine wp_ldcw dJ6_bitCount_0f7a4_11 cJ6_266 ?_
  refine wp_iand (z := an32 (x - an32 (sr32 x 1) 1431655765) 858993459) dJ6_bitCount_0f7a4_14 (an32_h _ _) ?_
  refine wp_iload_n dJ6_bitCount_0f7a4_15 rfl ?_
  refine wp_iconst dJ6_bitCount_0f7a4_16 ?_
  refine wp_iushr (z := sr32 (x - an32 (sr32 x 1) 1431655765) 2) dJ6_bitCount_0f7a4_17 (sr32_h _ _) ?_
  refine wp_ldcw dJ6_bitCount_0f7a4_18 cJ6_266 ?_
  refine wp_iand (z := an32 (sr32 (x - an32 (sr32 x 1) 1431655765) 2) 858993459) dJ6_bitCount_0f7a4_21 (an32_h _ _) ?_
  refine wp_iadd dJ6_bitCount_0f7a4_22 ?_
  refine wp_istore_n (L' := [some (vI (an32 (x - an32 (sr32 x 1) 1431655765) 858993459 + an32 (sr32 (x - an32 (sr32 x 1) 1431655765) 2) 858993459))]) dJ6_bitCount_0f7a4_23 (by decide) rfl ?_
  refine wp_iload_n dJ6_bitCount_0f7a4_24 rfl ?_
  refine wp_iload_n dJ6_bitCount_0f7a4_25 rfl ?_
  refine wp_iconst dJ6_bitCount_0f7a4_26 ?_
  refine wp_iushr (z := sr32 (an32 (x - an32 (sr32 x 1) 1431655765) 858993459 + an32 (sr32 (x - an32 (sr32 x 1) 1431655765) 2) 858993459) 4) dJ6_bitCount_0f7a4_27 (sr32_h _ _) ?_
  refine wp_iadd dJ6_bitCount_0f7a4_28 ?_
  refine wp_ldcw dJ6_bitCount_0f7a4_29 cJ6_267 ?_
  refine wp_iand (z := an32 (an32 (x - an32 (sr32 x 1) 1431655765) 858993459 + an32 (sr32 (x - an32 (sr32 x 1) 1431655765) 2) 858993459 + sr32 (an32 (x - an32 (sr32 x 1) 1431655765) 858993459 + an32 (sr32 (x - an32 (sr32 x 1) 1431655765) 2) 858993459) 4) 252645135) dJ6_bitCount_0f7a4_32 (an32_h _ _) ?_
  refine wp_istore_n (L' := [some (vI (an32 (an32 (x - an32 (sr32 x 1) 1431655765) 858993459 + an32 (sr32 (x - an32 (sr32 x 1) 1431655765) 2) 858993459 + sr32 (an32 (x - an32 (sr32 x 1) 1431655765) 858993459 + an32 (sr32 (x - an32 (sr32 x 1) 1431655765) 2) 858993459) 4) 252645135))]) dJ6_bitCount_0f7a4_33 (by decide) rfl ?_
  refine wp_iload_n dJ6_bitCount_0f7a4_34 rfl ?_
  refine wp_iload_n dJ6_bitCount_0f7a4_35 rfl ?_
  refine wp_bipush dJ6_bitCount_0f7a4_36 rfl ?_
  refine wp_iushr (z := sr32 (an32 (an32 (x - an32 (sr32 x 1) 1431655765) 858993459 + an32 (sr32 (x - an32 (sr32 x 1) 1431655765) 2) 858993459 + sr32 (an32 (x - an32 (sr32 x 1) 1431655765) 858993459 + an32 (sr32 (x - an32 (sr32 x 1) 1431655765) 2) 858993459) 4) 252645135) 8) dJ6_bitCount_0f7a4_38 (sr32_h _ _) ?_
  refine wp_iadd dJ6_bitCount_0f7a4_39 ?_
  refine wp_istore_n (L' := [some (vI (an32 (an32 (x - an32 (sr32 x 1) 1431655765) 858993459 + an32 (sr32 (x - an32 (sr32 x 1) 1431655765) 2) 858993459 + sr32 (an32 (x - an32 (sr32 x 1) 1431655765) 858993459 + an32 (sr32 (x - an32 (sr32 x 1) 1431655765) 2) 858993459) 4) 252645135 + sr32 (an32 (an32 (x - an32 (sr32 x 1) 1431655765) 858993459 + an32 (sr32 (x - an32 (sr32 x 1) 1431655765) 2) 858993459 + sr32 (an32 (x - an32 (sr32 x 1) 1431655765) 858993459 + an32 (sr32 (x - an32 (sr32 x 1) 1431655765) 2) 858993459) 4) 252645135) 8))]) dJ6_bitCount_0f7a4_40 (by decide) rfl ?_
  refine wp_iload_n dJ6_bitCount_0f7a4_41 rfl ?_
  refine wp_iload_n dJ6_bitCount_0f7a4_42 rfl ?_
  refine wp_bipush dJ6_bitCount_0f7a4_43 rfl ?_
  refine wp_iushr (z := sr32 (an32 (an32 (x - an32 (sr32 x 1) 1431655765) 858993459 + an32 (sr32 (x - an32 (sr32 x 1) 1431655765) 2) 858993459 + sr32 (an32 (x - an32 (sr32 x 1) 1431655765) 858993459 + an32 (sr32 (x - an32 (sr32 x 1) 1431655765) 2) 858993459) 4) 252645135 + sr32 (an32 (an32 (x - an32 (sr32 x 1) 1431655765) 858993459 + an32 (sr32 (x - an32 (sr32 x 1) 1431655765) 2) 858993459 + sr32 (an32 (x - an32 (sr32 x 1) 1431655765) 858993459 + an32 (sr32 (x - an32 (sr32 x 1) 1431655765) 2) 858993459) 4) 252645135) 8) 16) dJ6_bitCount_0f7a4_45 (sr32_h _ _) ?_
  refine wp_iadd dJ6_bitCount_0f7a4_46 ?_
  refine wp_istore_n (L' := [some (vI (an32 (an32 (x - an32 (sr32 x 1) 1431655765) 858993459 + an32 (sr32 (x - an32 (sr32 x 1) 1431655765) 2) 858993459 + sr32 (an32 (x - an32 (sr32 x 1) 1431655765) 858993459 + an32 (sr32 (x - an32 (sr32 x 1) 1431655765) 2) 858993459) 4) 252645135 + sr32 (an32 (an32 (x - an32 (sr32 x 1) 1431655765) 858993459 + an32 (sr32 (x - an32 (sr32 x 1) 1431655765) 2) 858993459 + sr32 (an32 (x - an32 (sr32 x 1) 1431655765) 858993459 + an32 (sr32 (x - an32 (sr32 x 1) 1431655765) 2) 858993459) 4) 252645135) 8 + sr32 (an32 (an32 (x - an32 (sr32 x 1) 1431655765) 858993459 + an32 (sr32 (x - an32 (sr32 x 1) 1431655765) 2) 858993459 + sr32 (an32 (x - an32 (sr32 x 1) 1431655765) 858993459 + an32 (sr32 (x - an32 (sr32 x 1) 1431655765) 2) 858993459) 4) 252645135 + sr32 (an32 (an32 (x - an32 (sr32 x 1) 1431655765) 858993459 + an32 (sr32 (x - an32 (sr32 x 1) 1431655765) 2) 858993459 + sr32 (an32 (x - an32 (sr32 x 1) 1431655765) 858993459 + an32 (sr32 (x - an32 (sr32 x 1) 1431655765) 2) 858993459) 4) 252645135) 8) 16))]) dJ6_bitCount_0f7a4_47 (by decide) rfl ?_
  refine wp_iload_n dJ6_bitCount_0f7a4_48 rfl ?_
  refine wp_bipush dJ6_bitCount_0f7a4_49 rfl ?_
  refine wp_iand (z := an32 (an32 (an32 (x - an32 (sr32 x 1) 1431655765) 858993459 + an32 (sr32 (x - an32 (sr32 x 1) 1431655765) 2) 858993459 + sr32 (an32 (x - an32 (sr32 x 1) 1431655765) 858993459 + an32 (sr32 (x - an32 (sr32 x 1) 1431655765) 2) 858993459) 4) 252645135 + sr32 (an32 (an32 (x - an32 (sr32 x 1) 1431655765) 858993459 + an32 (sr32 (x - an32 (sr32 x 1) 1431655765) 2) 858993459 + sr32 (an32 (x - an32 (sr32 x 1) 1431655765) 858993459 + an32 (sr32 (x - an32 (sr32 x 1) 1431655765) 2) 858993459) 4) 252645135) 8 + sr32 (an32 (an32 (x - an32 (sr32 x 1) 1431655765) 858993459 + an32 (sr32 (x - an32 (sr32 x 1) 1431655765) 2) 858993459 + sr32 (an32 (x - an32 (sr32 x 1) 1431655765) 858993459 + an32 (sr32 (x - an32 (sr32 x 1) 1431655765) 2) 858993459) 4) 252645135 + sr32 (an32 (an32 (x - an32 (sr32 x 1) 1431655765) 858993459 + an32 (sr32 (x - an32 (sr32 x 1) 1431655765) 2) 858993459 + sr32 (an32 (x - an32 (sr32 x 1) 1431655765) 858993459 + an32 (sr32 (x - an32 (sr32 x 1) 1431655765) 2) 858993459) 4) 252645135) 8) 16) 63) dJ6_bitCount_0f7a4_51 (an32_h _ _) ?_
  exact wp_iret dJ6_bitCount_0f7a4_52 rfl hQ
end WB
