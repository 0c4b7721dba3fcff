/-! foreseen, the class' face -/
def thB (f : Int → Int) (a : Int) : Int → Int := fun j => if f 0 < f (sA a j + 5) then 1 else 0
section KG
variable {X : XS} {h : AH} {Q : Option AV → AH → Prop} {sp kp : AV} {Rc : Int → Int → Int} {Zc : Int → Int} {f tf g Kp r bb : Int → Int} {B : Int} {b : Nat × Nat} {pr : Nat}
theorem C_bcb (hb : b01 bb) (hQ : Q (some (vI (cnt bb))) h) : Cl X kJ6_bitCount_0f7a4 [vI (bs bb)] h Q := C_bitCount (bs_b hb) (by rw [bc_bs hb]; exact hQ)
theorem thB_01 {a : Int} : b01 (thB f a) := fun k hk => by unfold thB; split; exact Or.inr rfl; exact Or.inl rfl
set_option maxHeartbeats 1000000 in
theorem lp_wl {fr N x0 : Int} (hp6 : h[pr]? = some (oL 40 r)) (hN : N ≤ 40) : ∀ (m : Nat) (i : Int) (bb : Int → Int), i + m = N → 0 ≤ i → b01 bb → 1 ≤ cnt bb → (∀ j, i ≤ j → j < N → 0 ≤ r j ∧ r j < 10) → Q (some (vI (pw (lwx (bs (wlL r m i bb)))))) h → Wp X kX6_wantedLast 6 [some (vR pr), some (vI fr), some (vI N), some (vI x0), some (vI (bs bb)), some (vI i)] [] h b Q := by
  intro m
  induction m with
  | zero =>
    intro i bb q1 q2 hb hp hk hQ
    have cb := cnt_b hb
    refine wp_iload dX6_wantedLast_6 rfl ?_
    refine wp_iload_n dX6_wantedLast_8 rfl ?_
    refine wp_icmp_ge 41 dX6_wantedLast_9 rfl (by first | assumption | (unfold r32; omega)) (by first | assumption | (unfold r32; omega)) (fun c9 => ?_) (fun c9 => ?_)
    · refine wp_iload dX6_wantedLast_41 rfl ?_
      refine wp_iload dX6_wantedLast_43 rfl ?_
      refine wp_ineg dX6_wantedLast_45 ?_
      refine wp_iand (z := pw (lwx (bs bb))) dX6_wantedLast_46 (al_bs hb hp) ?_
      exact wp_iret dX6_wantedLast_47 rfl hQ
    · exfalso; omega
  | succ m ih =>
    intro i bb q1 q2 hb hp hk hQ
    have cb := cnt_b hb
    have k0 := hk i (by omega) (by omega)
    have ec := cnt_clr (b := bb) k0
    have bk := hb (r i) k0
    unfold wlL at hQ
    refine wp_iload dX6_wantedLast_6 rfl ?_
    refine wp_iload_n dX6_wantedLast_8 rfl ?_
    refine wp_icmp_ge 41 dX6_wantedLast_9 rfl (by first | assumption | (unfold r32; omega)) (by first | assumption | (unfold r32; omega)) (fun c9 => ?_) (fun c9 => ?_)
    · refine wp_iload dX6_wantedLast_41 rfl ?_
      refine wp_iload dX6_wantedLast_43 rfl ?_
      refine wp_ineg dX6_wantedLast_45 ?_
      refine wp_iand (z := pw (lwx (bs bb))) dX6_wantedLast_46 (al_bs hb hp) ?_
      exact wp_iret dX6_wantedLast_47 rfl (by first | (exfalso; omega) | (rw [if_pos (by omega)] at hQ; exact hQ))
    · refine wp_iload dX6_wantedLast_12 rfl ?_
      refine wp_is1 dX6_wantedLast_14 SJ6_bitCount_0f7a4 lX6_282 (rq0 rfl rfl) (Nat.le_of_ble_eq_true rfl) (C_bcb hb ?_)
      dsimp only [pushR]
      refine wp_iconst dX6_wantedLast_17 ?_
      refine wp_icmp_le 41 dX6_wantedLast_18 rfl (by first | assumption | (unfold r32; omega)) ⟨by omega, by omega⟩ (fun c18 => ?_) (fun c18 => ?_)
      · refine wp_iload dX6_wantedLast_41 rfl ?_
        refine wp_iload dX6_wantedLast_43 rfl ?_
        refine wp_ineg dX6_wantedLast_45 ?_
        refine wp_iand (z := pw (lwx (bs bb))) dX6_wantedLast_46 (al_bs hb hp) ?_
        exact wp_iret dX6_wantedLast_47 rfl (by first | (exfalso; omega) | (rw [if_pos (by omega)] at hQ; exact hQ))
      · refine wp_iload dX6_wantedLast_21 rfl ?_
        refine wp_iconst dX6_wantedLast_23 ?_
        refine wp_aload_n dX6_wantedLast_24 rfl ?_
        refine wp_iload dX6_wantedLast_25 rfl ?_
        refine wp_lav (v := r i) dX6_wantedLast_27 hp6 (by decide) (by omega) rfl ?_
        refine wp_l2i dX6_wantedLast_28 ?_
        refine wp_ishl (z := pw (r i)) dX6_wantedLast_29 (sh_1 k0) ?_
        refine wp_iconst dX6_wantedLast_30 ?_
        refine wp_ixor (z := -pw (r i) - 1) dX6_wantedLast_31 (xr_pw k0) ?_
        refine wp_iand (z := bs (ud bb (r i) 0)) dX6_wantedLast_32 (ac_bs hb k0) ?_
        refine wp_istore (L' := [some (vR pr), some (vI fr), some (vI N), some (vI x0), some (vI (bs (ud bb (r i) 0))), some (vI i)]) dX6_wantedLast_33 (by decide) rfl ?_
        refine wp_iinc (L' := [some (vR pr), some (vI fr), some (vI N), some (vI x0), some (vI (bs (ud bb (r i) 0))), some (vI (i + 1))]) dX6_wantedLast_35 rfl rfl ?_
        refine wp_goto 6 dX6_wantedLast_38 rfl ?_
        rw [if_neg (by omega)] at hQ
        exact ih (i + 1) _ (by omega) (by omega) (hb.ud (Or.inl rfl)) (by omega) (fun j a c => hk j (by omega) c) hQ
theorem C_wantedLast {fr N : Int} {m : Nat} (hp6 : h[pr]? = some (oL 40 r)) (hN : N ≤ 40) (hm : fr + m = N) (h0 : 0 ≤ fr) (hb : b01 bb) (hp : 1 ≤ cnt bb) (hk : ∀ j, fr ≤ j → j < N → 0 ≤ r j ∧ r j < 10) (hQ : Q (some (vI (pw (lwx (bs (wlL r m fr bb)))))) h) : Cl X kX6_wantedLast [vR pr, vI fr, vI N, vI (bs bb)] h Q := by
  refine cl_of rfl (Nat.le_of_ble_eq_true rfl) rfl ?_
  refine wp_iload_n dX6_wantedLast_0 rfl ?_
  refine wp_istore (L' := [some (vR pr), some (vI fr), some (vI N), some (vI (bs bb)), some (vI (bs bb)), none]) dX6_wantedLast_1 (by decide) rfl ?_
  refine wp_iload_n dX6_wantedLast_3 rfl ?_
  refine wp_istore (L' := [some (vR pr), some (vI fr), some (vI N), some (vI (bs bb)), some (vI (bs bb)), some (vI fr)]) dX6_wantedLast_4 (by decide) rfl ?_
  exact lp_wl hp6 hN m fr bb hm h0 hb hp hk hQ
set_option maxHeartbeats 1000000 in
theorem lp_ev {N a room n i y8 : Int} {mm : Nat} (h0 : h[0]? = some (oO 6 (cF sp kp))) (hp6 : h[pr]? = some (oL 40 r)) (hN : N ≤ 40) (hm : i + 1 + mm = N) (hi : 0 ≤ i) (hr : 1 ≤ room ∧ room ≤ 100) (hk : ∀ j, i ≤ j → j < N → 0 ≤ r j ∧ r j < 10) : ∀ (m : Nat) (bb : Int → Int), b01 bb → bb (r i) = 0 → cnt bb ≤ m → (∀ y9, Wp X kX6_hitsForeseen 93 [some (vR 0), some (vR pr), some (vI N), some (vI a), some (vI (bs (evF (fun k => nxL r k (mm + 1) i) room m bb))), some (vI room), some (vI n), some (vI i), some (vI y8), y9] [] h b Q) → Wp X kX6_hitsForeseen 62 [some (vR 0), some (vR pr), some (vI N), some (vI a), some (vI (bs bb)), some (vI room), some (vI n), some (vI i), some (vI y8), some (vI (cnt bb))] [] h b Q := by
  intro m
  induction m with
  | zero =>
    intro bb hb hn hc hQ
    have cb := cnt_b hb
    refine wp_iload dX6_hitsForeseen_62 rfl ?_
    refine wp_iload dX6_hitsForeseen_64 rfl ?_
    refine wp_icmp_lt 93 dX6_hitsForeseen_66 rfl (by first | assumption | (unfold r32; omega)) (by first | assumption | (unfold r32; omega)) (fun c66 => ?_) (fun c66 => ?_)
    · exact hQ _
    · exfalso; omega
  | succ m ih =>
    intro bb hb hn hc hQ
    have cb := cnt_b hb
    unfold evF at hQ
    refine wp_iload dX6_hitsForeseen_62 rfl ?_
    refine wp_iload dX6_hitsForeseen_64 rfl ?_
    refine wp_icmp_lt 93 dX6_hitsForeseen_66 rfl (by first | assumption | (unfold r32; omega)) (by first | assumption | (unfold r32; omega)) (fun c66 => ?_) (fun c66 => ?_)
    · rw [if_pos (by omega)] at hQ
      exact hQ _
    · refine wp_iload dX6_hitsForeseen_69 rfl ?_
      refine wp_aload_n dX6_hitsForeseen_71 rfl ?_
      refine wp_iload dX6_hitsForeseen_72 rfl ?_
      refine wp_iconst dX6_hitsForeseen_74 ?_
      refine wp_iadd dX6_hitsForeseen_75 ?_
      refine wp_iload_n dX6_hitsForeseen_76 rfl ?_
      refine wp_iload dX6_hitsForeseen_77 rfl ?_
      have hp : 1 ≤ cnt bb := by omega
      have w1 := am_st (b := bb) (r := r) (i := i) (m := mm) hn (wl_am (r := r) mm (i + 1) bb hb hp (by omega) (fun j q1 q2 => hk j (by omega) (by omega)))
      have w2 := amL_am (N := (fun k => nxL r k (mm + 1) i)) hb hp
      have e := am_un w1 w2
      have k0 := w2.1
      have ec := cnt_clr (b := bb) k0
      have b1 := w2.2.1
      refine wp_is4 dX6_hitsForeseen_79 SX6_wantedLast lX6_319 (rq0 rfl rfl) (Nat.le_of_ble_eq_true rfl) (C_wantedLast (m := mm) hp6 hN hm (by omega) hb hp (fun j q1 q2 => hk j (by omega) q2) ?_)
      dsimp only [pushR]
      rw [e]
      refine wp_iconst dX6_hitsForeseen_82 ?_
      refine wp_ixor (z := -pw (amL bb (fun k => nxL r k (mm + 1) i) 10 0 (-1)) - 1) dX6_hitsForeseen_83 (xr_pw k0) ?_
      refine wp_iand (z := bs (ud bb (amL bb (fun k => nxL r k (mm + 1) i) 10 0 (-1)) 0)) dX6_hitsForeseen_84 (ac_bs hb k0) ?_
      refine wp_istore (L' := [some (vR 0), some (vR pr), some (vI N), some (vI a), some (vI (bs (ud bb (amL bb (fun k => nxL r k (mm + 1) i) 10 0 (-1)) 0))), some (vI room), some (vI n), some (vI i), some (vI y8), some (vI (cnt bb))]) dX6_hitsForeseen_85 (by decide) rfl ?_
      refine wp_iinc (L' := [some (vR 0), some (vR pr), some (vI N), some (vI a), some (vI (bs (ud bb (amL bb (fun k => nxL r k (mm + 1) i) 10 0 (-1)) 0))), some (vI room), some (vI n), some (vI i), some (vI y8), some (vI (cnt bb + (-1)))]) dX6_hitsForeseen_87 rfl rfl ?_
      refine wp_goto 62 dX6_hitsForeseen_90 rfl ?_
      rw [if_neg (by omega)] at hQ
      have e9 : cnt bb + -1 = cnt (ud bb (amL bb (fun k => nxL r k (mm + 1) i) 10 0 (-1)) 0) := by omega
      rw [e9]
      have hne : (amL bb (fun k => nxL r k (mm + 1) i) 10 0 (-1)) ≠ r i := fun x => by rw [x] at b1; omega
      exact ih _ (hb.ud (Or.inl rfl)) (by rw [ud_ne (fun x => hne x.symm)]; exact hn) (by omega) hQ
set_option maxHeartbeats 1000000 in
theorem lp_cf {N a room : Int} (h0 : h[0]? = some (oO 6 (cF sp kp))) (hp6 : h[pr]? = some (oL 40 r)) (hN : N ≤ 40) (hr : 1 ≤ room ∧ room ≤ 100) (hk : ∀ j, 0 ≤ j → j < N → 0 ≤ r j ∧ r j < 10) : ∀ (m : Nat) (i n : Int) (bb : Int → Int) (y8 y9 : Option AV), i + m = N → 0 ≤ i → 0 ≤ n ∧ n ≤ i → b01 bb → Q (some (vI (fsL r room m i n bb))) h → Wp X kX6_hitsForeseen 26 [some (vR 0), some (vR pr), some (vI N), some (vI a), some (vI (bs bb)), some (vI room), some (vI n), some (vI i), y8, y9] [] h b Q := by
  intro m
  induction m with
  | zero =>
    intro i n bb y8 y9 q1 q2 q3 hb hQ
    refine wp_iload dX6_hitsForeseen_26 rfl ?_
    refine wp_iload_n dX6_hitsForeseen_28 rfl ?_
    refine wp_icmp_ge 106 dX6_hitsForeseen_29 rfl (by first | assumption | (unfold r32; omega)) (by first | assumption | (unfold r32; omega)) (fun c29 => ?_) (fun c29 => ?_)
    · refine wp_iload dX6_hitsForeseen_106 rfl ?_
      exact wp_iret dX6_hitsForeseen_108 rfl hQ
    · exfalso; omega
  | succ m ih =>
    intro i n bb y8 y9 q1 q2 q3 hb hQ
    have k0 := hk i (by omega) (by omega)
    have pb := pw_b k0
    have ab := an_bs hb k0
    have bd := bs_b hb
    unfold fsL at hQ
    rcases hb (r i) k0 with e0 | e0
    · rw [e0, Int.zero_mul] at ab
      rw [if_neg (by omega)] at hQ
      refine wp_iload dX6_hitsForeseen_26 rfl ?_
      refine wp_iload_n dX6_hitsForeseen_28 rfl ?_
      refine wp_icmp_ge 106 dX6_hitsForeseen_29 rfl (by first | assumption | (unfold r32; omega)) (by first | assumption | (unfold r32; omega)) (fun c29 => ?_) (fun c29 => ?_)
      · refine wp_iload dX6_hitsForeseen_106 rfl ?_
        exact wp_iret dX6_hitsForeseen_108 rfl (False.elim (by omega))
      · refine wp_iconst dX6_hitsForeseen_32 ?_
        refine wp_aload_n dX6_hitsForeseen_33 rfl ?_
        refine wp_iload dX6_hitsForeseen_34 rfl ?_
        refine wp_lav (v := r i) dX6_hitsForeseen_36 hp6 (by decide) (by omega) rfl ?_
        refine wp_l2i dX6_hitsForeseen_37 ?_
        refine wp_ishl (z := pw (r i)) dX6_hitsForeseen_38 (sh_1 k0) ?_
        refine wp_istore (L' := [some (vR 0), some (vR pr), some (vI N), some (vI a), some (vI (bs bb)), some (vI room), some (vI n), some (vI i), some (vI (pw (r i))), y9]) dX6_hitsForeseen_39 (by decide) rfl ?_
        refine wp_iload dX6_hitsForeseen_41 rfl ?_
        refine wp_iload dX6_hitsForeseen_43 rfl ?_
        refine wp_iand (z := 0) dX6_hitsForeseen_45 ab ?_
        refine wp_if_eq 55 dX6_hitsForeseen_46 rfl (by first | assumption | (unfold r32; omega)) (fun c46 => ?_) (fun c46 => ?_)
        · refine wp_iload dX6_hitsForeseen_55 rfl ?_
          refine wp_is1 dX6_hitsForeseen_57 SJ6_bitCount_0f7a4 lX6_282 (rq0 rfl rfl) (Nat.le_of_ble_eq_true rfl) (C_bcb hb ?_)
          dsimp only [pushR]
          refine wp_istore (L' := [some (vR 0), some (vR pr), some (vI N), some (vI a), some (vI (bs bb)), some (vI room), some (vI n), some (vI i), some (vI (pw (r i))), some (vI (cnt bb))]) dX6_hitsForeseen_60 (by decide) rfl ?_
          have cb := cnt_b hb
          have he := evF_01 (N := (fun k => nxL r k (m + 1) i)) (room := room) 10 bb hb
          refine lp_ev (mm := m) h0 hp6 hN (by omega) q2 hr (fun j a c => hk j (by omega) c) 10 bb hb e0 (by omega) (fun y9 => ?_)
          refine wp_iload dX6_hitsForeseen_93 rfl ?_
          refine wp_iload dX6_hitsForeseen_95 rfl ?_
          refine wp_ior dX6_hitsForeseen_97 (ao_bs he k0) ?_
          refine wp_istore (L' := [some (vR 0), some (vR pr), some (vI N), some (vI a), some (vI (bs (ud (evF (fun k => nxL r k (m + 1) i) room 10 bb) (r i) 1))), some (vI room), some (vI n), some (vI i), some (vI (pw (r i))), y9]) dX6_hitsForeseen_98 (by decide) rfl ?_
          refine wp_iinc (L' := [some (vR 0), some (vR pr), some (vI N), some (vI a), some (vI (bs (ud (evF (fun k => nxL r k (m + 1) i) room 10 bb) (r i) 1))), some (vI room), some (vI n), some (vI (i + 1)), some (vI (pw (r i))), y9]) dX6_hitsForeseen_100 rfl rfl ?_
          refine wp_goto 26 dX6_hitsForeseen_103 rfl ?_
          exact ih (i + 1) n _ _ _ (by omega) (by omega) (by omega) (he.ud (Or.inr rfl)) hQ
        · exfalso; omega
    · rw [e0, Int.one_mul] at ab
      rw [if_pos e0] at hQ
      refine wp_iload dX6_hitsForeseen_26 rfl ?_
      refine wp_iload_n dX6_hitsForeseen_28 rfl ?_
      refine wp_icmp_ge 106 dX6_hitsForeseen_29 rfl (by first | assumption | (unfold r32; omega)) (by first | assumption | (unfold r32; omega)) (fun c29 => ?_) (fun c29 => ?_)
      · refine wp_iload dX6_hitsForeseen_106 rfl ?_
        exact wp_iret dX6_hitsForeseen_108 rfl (False.elim (by omega))
      · refine wp_iconst dX6_hitsForeseen_32 ?_
        refine wp_aload_n dX6_hitsForeseen_33 rfl ?_
        refine wp_iload dX6_hitsForeseen_34 rfl ?_
        refine wp_lav (v := r i) dX6_hitsForeseen_36 hp6 (by decide) (by omega) rfl ?_
        refine wp_l2i dX6_hitsForeseen_37 ?_
        refine wp_ishl (z := pw (r i)) dX6_hitsForeseen_38 (sh_1 k0) ?_
        refine wp_istore (L' := [some (vR 0), some (vR pr), some (vI N), some (vI a), some (vI (bs bb)), some (vI room), some (vI n), some (vI i), some (vI (pw (r i))), y9]) dX6_hitsForeseen_39 (by decide) rfl ?_
        refine wp_iload dX6_hitsForeseen_41 rfl ?_
        refine wp_iload dX6_hitsForeseen_43 rfl ?_
        refine wp_iand (z := pw (r i)) dX6_hitsForeseen_45 ab ?_
        refine wp_if_eq 55 dX6_hitsForeseen_46 rfl (by first | assumption | (unfold r32; omega)) (fun c46 => ?_) (fun c46 => ?_)
        · exfalso; omega
        · refine wp_iinc (L' := [some (vR 0), some (vR pr), some (vI N), some (vI a), some (vI (bs bb)), some (vI room), some (vI (n + 1)), some (vI i), some (vI (pw (r i))), y9]) dX6_hitsForeseen_49 rfl rfl ?_
          refine wp_goto 100 dX6_hitsForeseen_52 rfl ?_
          refine wp_iinc (L' := [some (vR 0), some (vR pr), some (vI N), some (vI a), some (vI (bs bb)), some (vI room), some (vI (n + 1)), some (vI (i + 1)), some (vI (pw (r i))), y9]) dX6_hitsForeseen_100 rfl rfl ?_
          refine wp_goto 26 dX6_hitsForeseen_103 rfl ?_
          exact ih (i + 1) (n + 1) bb _ _ (by omega) (by omega) (by omega) hb hQ
set_option maxHeartbeats 1000000 in
theorem C_hitsForeseen {N a : Int} (h0 : h[0]? = some (oO 6 (cF sp kp))) (h1 : h[1]? = some (oO 5 [vR 2])) (h2 : h[2]? = some (oI 1060 f)) (hI : IW B f) (hBB : B ≤ 8000000) (hp6 : h[pr]? = some (oL 40 r)) (hN : 0 ≤ N ∧ N ≤ 40) (ha : 0 ≤ a ∧ a < 6) (hr : 1 ≤ f 3 ∧ f 3 ≤ 100) (hk : ∀ j, 0 ≤ j → j < N → 0 ≤ r j ∧ r j < 10) (hQ : Q (some (vI (fsL r (f 3) N.toNat 0 0 (thB f a)))) h) : Cl X kX6_hitsForeseen [vR 0, vR pr, vI N, vI a] h Q := by
  refine cl_of rfl (Nat.le_of_ble_eq_true rfl) rfl ?_
  have hR := hI.r (by omega)
  have h1f : ([vR 2] : List AV)[0]? = some (vR 2) := rfl
  have e : wEk f a = bs (thB f a) := wEk_is
  refine wp_aload_n dX6_hitsForeseen_0 rfl ?_
  refine wp_getf dX6_hitsForeseen_1 fX6_10 h0 rfl ?_
  refine wp_iload_n dX6_hitsForeseen_4 rfl ?_
  refine wp_iv1 dX6_hitsForeseen_5 VX5_entryKeys lX6_279 h1 (rq0 rfl rfl) (Nat.le_of_ble_eq_true rfl) (sa_of h2 (C_wentryKeys (sa_mk (by decide) h1 h1f h2) hI (by omega) (by omega) ?_))
  dsimp only [pushR]
  rw [set_same h2]
  refine wp_istore (L' := [some (vR 0), some (vR pr), some (vI N), some (vI a), some (vI (wEk f a)), none, none, none, none, none]) dX6_hitsForeseen_8 (by decide) rfl ?_
  refine wp_aload_n dX6_hitsForeseen_10 rfl ?_
  refine wp_getf dX6_hitsForeseen_11 fX6_10 h0 rfl ?_
  refine wp_iconst dX6_hitsForeseen_14 ?_
  refine wp_iv1 dX6_hitsForeseen_15 VX5_settingOf lX6_142 h1 (rq0 rfl rfl) (Nat.le_of_ble_eq_true rfl) (sa_of h2 (C_wsettingOf (sa_mk (by decide) h1 h1f h2) (by omega) rfl ?_))
  dsimp only [pushR]
  rw [set_same h2]
  refine wp_istore (L' := [some (vR 0), some (vR pr), some (vI N), some (vI a), some (vI (wEk f a)), some (vI (f 3)), none, none, none, none]) dX6_hitsForeseen_18 (by decide) rfl ?_
  refine wp_iconst dX6_hitsForeseen_20 ?_
  refine wp_istore (L' := [some (vR 0), some (vR pr), some (vI N), some (vI a), some (vI (wEk f a)), some (vI (f 3)), some (vI 0), none, none, none]) dX6_hitsForeseen_21 (by decide) rfl ?_
  refine wp_iconst dX6_hitsForeseen_23 ?_
  refine wp_istore (L' := [some (vR 0), some (vR pr), some (vI N), some (vI a), some (vI (wEk f a)), some (vI (f 3)), some (vI 0), some (vI 0), none, none]) dX6_hitsForeseen_24 (by decide) rfl ?_
  rw [e]
  exact lp_cf h0 hp6 hN.2 hr hk N.toNat 0 0 _ _ _ (by omega) (by omega) (by omega) thB_01 hQ
set_option maxHeartbeats 1000000 in
theorem C_cforeseen {d a : Int} (h0 : h[0]? = some (oO 6 (cF sp kp))) (h1 : h[1]? = some (oO 5 [vR 2])) (h2 : h[2]? = some (oI 1060 f)) (hI : IW B f) (hBB : B ≤ 8000000) (hr : 1 ≤ f 3 ∧ f 3 ≤ 100) (hS : SHc h Rc Zc) (hZc : ∀ j, -1 ≤ Zc j ∧ Zc j ≤ 40) (hr6 : ∀ d j, 0 ≤ d ∧ d < 4 → r64 (Rc d j)) (rd : r32 d) (ra : r32 a) (hQ0 : ¬ ((0 ≤ d ∧ d < 4) ∧ 0 ≤ a ∧ a < 6) → Q (some (vI (-1))) h) (hQ1 : (0 ≤ d ∧ d < 4) ∧ 0 ≤ a ∧ a < 6 → Zc d < 0 → Q (some (vI (-11))) h) (hQ : (0 ≤ d ∧ d < 4) ∧ 0 ≤ a ∧ a < 6 → ¬ Zc d < 0 → Q (some (vI (fsL (Rc d) (f 3) (kaL (Rc d) (Zc d).toNat 0).toNat 0 0 (thB f a)))) h) : Cl X kX6_foreseen [vR 0, vI d, vI a] h Q := by
  refine cl_of rfl (Nat.le_of_ble_eq_true rfl) rfl ?_
  have hzd := hZc d
  have hRZ : ∀ j, r32 (Zc j) := fun j => by have := hZc j; unfold r32; omega
  have kb := kaL_b (Rc d) (Zc d).toNat 0
  refine wp_iload_n dX6_foreseen_0 rfl ?_
  refine wp_iconst dX6_foreseen_1 ?_
  refine wp_is2 dX6_foreseen_2 SX6_below lX6_81 (rq0 rfl rfl) (Nat.le_of_ble_eq_true rfl) (C_below (by first | assumption | exact hR _ | exact bI_r _ | (unfold r32; omega)) (by first | assumption | exact hR _ | exact bI_r _ | (unfold r32; omega)) ?_)
  dsimp only [pushR]
  refine wp_beq 17 dX6_foreseen_5 rfl (fun c5 => ?_) (fun c5 => ?_)
  · refine wp_iconst dX6_foreseen_17 ?_
    exact wp_iret dX6_foreseen_18 rfl (by first | exact hQ0 (by omega) | exact hQ1 (by omega) (by omega) | exact hQ (by omega) (by omega))
  · refine wp_iload_n dX6_foreseen_8 rfl ?_
    refine wp_bipush dX6_foreseen_9 rfl ?_
    refine wp_is2 dX6_foreseen_11 SX6_below lX6_81 (rq0 rfl rfl) (Nat.le_of_ble_eq_true rfl) (C_below (by first | assumption | exact hR _ | exact bI_r _ | (unfold r32; omega)) (by first | assumption | exact hR _ | exact bI_r _ | (unfold r32; omega)) ?_)
    dsimp only [pushR]
    refine wp_bne 19 dX6_foreseen_14 rfl (fun c14 => ?_) (fun c14 => ?_)
    · refine wp_aload_n dX6_foreseen_19 rfl ?_
      refine wp_getf dX6_foreseen_20 fX6_68 h0 rfl ?_
      refine wp_iload_n dX6_foreseen_23 rfl ?_
      refine wp_iav (v := Zc d) dX6_foreseen_24 hS.2.2 (by decide) (by omega) rfl ?_
      refine wp_if_ge 33 dX6_foreseen_25 rfl (by first | assumption | exact hRZ _ | (unfold r32; omega)) (fun c25 => ?_) (fun c25 => ?_)
      · refine wp_aload_n dX6_foreseen_33 rfl ?_
        refine wp_aload_n dX6_foreseen_34 rfl ?_
        refine wp_getf dX6_foreseen_35 fX6_65 h0 rfl ?_
        refine wp_iload_n dX6_foreseen_38 rfl ?_
        refine wp_aav (j' := (46 + d.toNat)) dX6_foreseen_39 hS.1 (by decide) (by omega) (shF_at (by omega)) ?_
        refine wp_aload_n dX6_foreseen_40 rfl ?_
        refine wp_iload_n dX6_foreseen_41 rfl ?_
        refine wp_iv1 dX6_foreseen_42 VX6_keysAhead lX6_237 h0 (rq0 rfl rfl) (Nat.le_of_ble_eq_true rfl) (C_keysAhead h0 hS (by omega) (by omega) hZc (fun j => hr6 d j (by omega)) ?_)
        dsimp only [pushR]
        refine wp_iload_n dX6_foreseen_45 rfl ?_
        refine wp_iv3 dX6_foreseen_46 VX6_hitsForeseen lX6_240 h0 (rq0 rfl rfl) (Nat.le_of_ble_eq_true rfl) (C_hitsForeseen h0 h1 h2 hI hBB (hS.2.1 d (by omega)) (by omega) (by omega) hr (fun j q1 q2 => kaL_keys (Rc d) (Zc d).toNat 0 j q1 q2) ?_)
        dsimp only [pushR]
        exact wp_iret dX6_foreseen_49 rfl (by first | exact hQ0 (by omega) | exact hQ1 (by omega) (by omega) | exact hQ (by omega) (by omega))
      · refine wp_bipush dX6_foreseen_28 rfl ?_
        refine wp_goto 49 dX6_foreseen_30 rfl ?_
        exact wp_iret dX6_foreseen_49 rfl (by first | exact hQ0 (by omega) | exact hQ1 (by omega) (by omega) | exact hQ (by omega) (by omega))
    · refine wp_iconst dX6_foreseen_17 ?_
      exact wp_iret dX6_foreseen_18 rfl (by first | exact hQ0 (by omega) | exact hQ1 (by omega) (by omega) | exact hQ (by omega) (by omega))
end KG
