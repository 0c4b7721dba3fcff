/-! keys tried on a thought row, walks -/
section KC
variable {X : XS} {h : AH} {Q : Option AV → AH → Prop} {sp kp : AV} {Rc : Int → Int → Int} {Zc : Int → Int} {tf g Kp : Int → Int} {dn km ln ik B : Int} {T P PS R Z I : Int → Int} {b : Nat × Nat}
set_option maxHeartbeats 2000000 in
theorem lp_ct {d a t N : Int} (h0 : h[0]? = some (oO 6 (cF sp kp))) (h3 : h[3]? = some (oO 5 [vR 4])) (h4 : h[4]? = some (oI 1060 tf)) (hS : SHc h Rc Zc) (hd : 0 ≤ d ∧ d < 4) (ha : 0 ≤ a ∧ a < 6) (ht : 0 ≤ t ∧ t < 4) (hN : N ≤ 40) (hK : ∀ j, 0 ≤ j → j < N → 0 ≤ Rc d j ∧ Rc d j < 10) : ∀ (m : Nat) (i n : Int) (f g : Int → Int) (B : Int), i + m = N → 0 ≤ i → 0 ≤ n ∧ n ≤ i → HW B f g → 1000 ≤ B → B + 400 * m ≤ 8000000 → t = g 8 → Q (some (vI (tcS (Rc d) a t m i n f).1)) (h.set 4 (oI 1060 (tcS (Rc d) a t m i n f).2)) → Wp X kX6_hitsTried 27 [some (vR 0), some (vI d), some (vI a), some (vI t), some (vI N), some (vI n), some (vI i)] [] (h.set 4 (oI 1060 f)) b Q := by
  have hS4 : ∀ f, SHc (h.set 4 (oI 1060 f)) Rc Zc := fun f => SHc.fr hS (fun i hi _ => List.getElem?_set_ne (by omega))
  intro m
  induction m with
  | zero =>
    intro i n f g B q1 q2 q3 hH hB hBB hg hQ
    refine wp_iload dX6_hitsTried_27 rfl ?_
    refine wp_iload dX6_hitsTried_29 rfl ?_
    refine wp_icmp_ge 74 dX6_hitsTried_31 rfl (by first | assumption | (unfold r32; omega)) (by first | assumption | (unfold r32; omega)) (fun c31 => ?_) (fun c31 => ?_)
    · refine wp_iload dX6_hitsTried_74 rfl ?_
      exact wp_iret dX6_hitsTried_76 rfl hQ
    · exfalso; omega
  | succ m ih =>
    intro i n f g B q1 q2 q3 hH hB hBB hg hQ
    have hk := hK i (by omega) (by omega)
    have hN1 := HW.now hH
    have hI1 := hN1.iw (by omega)
    have hT := HW.tr (t := t) hN1 (by omega) ha hk (by rw [ud_ne (by omega)]; exact hg)
    have w01 := wTry_01 (ud f 0 (f 0 + 1)) a (Rc d i) t
    have hT8 := hT.2.2
    rw [ud_ne (by omega)] at hT8
    unfold tcS at hQ
    refine wp_iload dX6_hitsTried_27 rfl ?_
    refine wp_iload dX6_hitsTried_29 rfl ?_
    refine wp_icmp_ge 74 dX6_hitsTried_31 rfl (by first | assumption | (unfold r32; omega)) (by first | assumption | (unfold r32; omega)) (fun c31 => ?_) (fun c31 => ?_)
    · refine wp_iload dX6_hitsTried_74 rfl ?_
      exact wp_iret dX6_hitsTried_76 rfl (False.elim (by omega))
    · refine wp_aload_n dX6_hitsTried_34 rfl ?_
      refine wp_getf dX6_hitsTried_35 fX6_16 (gs_ne (by decide) h0) rfl ?_
      refine wp_iconst dX6_hitsTried_38 ?_
      refine wp_iv1 dX6_hitsTried_39 VX5_pass lX6_106 (gs_ne (by decide) h3) (rq0 rfl rfl) (Nat.le_of_ble_eq_true rfl) (sa_of (gs_eq (gs_lt h4)) (C_wpass (sa_mk (by decide) (gs_ne (by decide) h3) rfl (gs_eq (gs_lt h4))) rfl ?_))
      dsimp only [pushR]
      rw [List.set_set]
      refine wp_pop dX6_hitsTried_42 rfl ?_
      refine wp_aload_n dX6_hitsTried_43 rfl ?_
      refine wp_getf dX6_hitsTried_44 fX6_16 (gs_ne (by decide) h0) rfl ?_
      refine wp_iload_n dX6_hitsTried_47 rfl ?_
      refine wp_aload_n dX6_hitsTried_48 rfl ?_
      refine wp_getf dX6_hitsTried_49 fX6_65 (gs_ne (by decide) h0) rfl ?_
      refine wp_iload_n dX6_hitsTried_52 rfl ?_
      refine wp_aav (j' := (46 + d.toNat)) dX6_hitsTried_53 (gs_ne (by decide) hS.1) (by decide) (by omega) (shF_at (by omega)) ?_
      refine wp_iload dX6_hitsTried_54 rfl ?_
      refine wp_lav (v := (Rc d) i) dX6_hitsTried_56 (gs_ne (by omega) (hS.2.1 d (by omega))) (by decide) (by omega) rfl ?_
      refine wp_l2i dX6_hitsTried_57 ?_
      refine wp_iload_n dX6_hitsTried_58 rfl ?_
      refine wp_iv3 dX6_hitsTried_59 VX5_tryKey lX6_315 (gs_ne (by decide) h3) (rq0 rfl rfl) (Nat.le_of_ble_eq_true rfl) (sa_of (gs_eq (gs_lt h4)) (C_wtryKey (sa_mk (by decide) (gs_ne (by decide) h3) rfl (gs_eq (gs_lt h4))) hI1 (by omega) ha hk ht ?_))
      dsimp only [pushR]
      rw [List.set_set]
      refine wp_if_eq 68 dX6_hitsTried_62 rfl (by first | assumption | (unfold r32; omega)) (fun c62 => ?_) (fun c62 => ?_)
      · refine wp_iinc (L' := [some (vR 0), some (vI d), some (vI a), some (vI t), some (vI N), some (vI n), some (vI (i + 1))]) dX6_hitsTried_68 rfl rfl ?_
        refine wp_goto 27 dX6_hitsTried_71 rfl ?_
        have e0 : (wTry (ud f 0 (f 0 + 1)) a (Rc d i) t).1 = 0 := by omega
        rw [e0, Int.add_zero] at hQ
        exact ih (i + 1) n _ _ _ (by omega) (by omega) (by omega) hT.2.1 (by omega) (by omega) (hg.trans hT8.symm) hQ
      · refine wp_iinc (L' := [some (vR 0), some (vI d), some (vI a), some (vI t), some (vI N), some (vI (n + 1)), some (vI i)]) dX6_hitsTried_65 rfl rfl ?_
        refine wp_iinc (L' := [some (vR 0), some (vI d), some (vI a), some (vI t), some (vI N), some (vI (n + 1)), some (vI (i + 1))]) dX6_hitsTried_68 rfl rfl ?_
        refine wp_goto 27 dX6_hitsTried_71 rfl ?_
        rw [show (n + 1) = n + (wTry (ud f 0 (f 0 + 1)) a (Rc d i) t).1 by omega]
        exact ih (i + 1) _ _ _ _ (by omega) (by omega) (by omega) hT.2.1 (by omega) (by omega) (hg.trans hT8.symm) hQ
theorem tcS_hw {r : Int → Int} {a t : Int} (ha : 0 ≤ a ∧ a < 6) : ∀ (m : Nat) (i n : Int) (f g : Int → Int) (B : Int), HW B f g → 1000 ≤ B → t = g 8 → (∀ j, i ≤ j → j < i + m → 0 ≤ r j ∧ r j < 10) → SmZ (tcS r a t m i n f).2 ∧ n ≤ (tcS r a t m i n f).1 ∧ (tcS r a t m i n f).1 ≤ n + m := by
  intro m
  induction m with
  | zero => intro i n f g B h _ _ _; exact ⟨h.1.Z, Int.le_refl _, by show n ≤ n + ((0 : Nat) : Int); omega⟩
  | succ m ih =>
    intro i n f g B h hB ht hK
    have w := HW.tr (t := t) h.now (by omega) ha (hK i (by omega) (by omega)) (by rw [ud_ne (by omega)]; exact ht)
    have q := ih (i + 1) (n + (wTry (ud f 0 (f 0 + 1)) a (r i) t).1) _ _ (B + 1 + 300) w.2.1 (by omega) (by rw [w.2.2, ud_ne (by omega)]; exact ht) (fun j q1 q2 => hK j (by omega) (by omega))
    have w01 := wTry_01 (ud f 0 (f 0 + 1)) a (r i) t
    unfold tcS
    exact ⟨q.1, by omega, by omega⟩
set_option maxHeartbeats 1000000 in
theorem C_keysAhead {d : Int} (h0 : h[0]? = some (oO 6 (cF sp kp))) (hS : SHc h Rc Zc) (hd : 0 ≤ d ∧ d < 4) (hZ0 : 0 ≤ Zc d) (hZ : ∀ j, -1 ≤ Zc j ∧ Zc j ≤ 40) (hr6 : ∀ j, r64 (Rc d j)) (hQ : Q (some (vI (kaL (Rc d) (Zc d).toNat 0))) h) : Cl X kX6_keysAhead [vR 0, vI d] h Q := by
  refine cl_of rfl (Nat.le_of_ble_eq_true rfl) rfl ?_
  refine wp_iconst dX6_keysAhead_0 ?_
  refine wp_istore_n (L' := [some (vR 0), some (vI d), some (vI 0)]) dX6_keysAhead_1 (by decide) rfl ?_
  exact lp_ka h0 hS hd hZ hr6 (Zc d).toNat 0 (by omega) (by omega) hQ
set_option maxHeartbeats 2000000 in
theorem C_hitsTried {d a t : Int} {f tf : Int → Int} (h0 : h[0]? = some (oO 6 (cF sp kp))) (h1 : h[1]? = some (oO 5 [vR 2])) (h2 : h[2]? = some (oI 1060 f)) (h3 : h[3]? = some (oO 5 [vR 4])) (h4 : h[4]? = some (oI 1060 tf)) (hzf : SmZ f) (hzt : SmZ tf) (hS : SHc h Rc Zc) (hd : 0 ≤ d ∧ d < 4) (hZ : 0 ≤ Zc d) (hZc : ∀ j, -1 ≤ Zc j ∧ Zc j ≤ 40) (hr6 : ∀ j, r64 (Rc d j)) (ha : 0 ≤ a ∧ a < 6) (ht : 0 ≤ t ∧ t < 4) (hH : HW B f g) (hB : 1000 ≤ B) (hBB : B + 20000 ≤ 8000000) (hg : t = g 8) (hQ : ∀ tf', SmZ tf' → Q (some (vI (tcS (Rc d) a t (kaL (Rc d) (Zc d).toNat 0).toNat 0 0 f).1)) (h.set 4 (oI 1060 tf'))) : Cl X kX6_hitsTried [vR 0, vI d, vI a, vI t] h Q := by
  refine cl_of rfl (Nat.le_of_ble_eq_true rfl) rfl ?_
  have kb := kaL_b (Rc d) (Zc d).toNat 0
  have hzd := hZc d
  have hS4 : SHc (h.set 4 (oI 1060 f)) Rc Zc := SHc.fr hS (fun i hi _ => List.getElem?_set_ne (by omega))
  have hz := tcS_hw (r := Rc d) (t := t) ha (kaL (Rc d) (Zc d).toNat 0).toNat 0 0 f g B hH hB hg (fun j q1 q2 => kaL_keys (Rc d) (Zc d).toNat 0 j q1 (by omega))
  refine wp_aload_n dX6_hitsTried_0 rfl ?_
  refine wp_getf dX6_hitsTried_1 fX6_16 h0 rfl ?_
  refine wp_aload_n dX6_hitsTried_4 rfl ?_
  refine wp_getf dX6_hitsTried_5 fX6_10 h0 rfl ?_
  refine wp_getf dX6_hitsTried_8 fX6_211 h1 rfl ?_
  refine wp_iv1 dX6_hitsTried_11 VX5_copyFrom lX6_214 h3 (rq0 rfl rfl) (Nat.le_of_ble_eq_true rfl) (sa_of h4 (C_wcopyFrom (r := 2) (sa_mk (by decide) h3 rfl h4) (gs_ne (by decide) h2) ?_))
  dsimp only [pushR]
  rw [cp_same hzf hzt]
  refine wp_aload_n dX6_hitsTried_14 rfl ?_
  refine wp_iload_n dX6_hitsTried_15 rfl ?_
  refine wp_iv1 dX6_hitsTried_16 VX6_keysAhead lX6_237 (gs_ne (by decide) h0) (rq0 rfl rfl) (Nat.le_of_ble_eq_true rfl) (C_keysAhead (gs_ne (by decide) h0) hS4 hd hZ hZc hr6 ?_)
  dsimp only [pushR]
  refine wp_istore (L' := [some (vR 0), some (vI d), some (vI a), some (vI t), some (vI (kaL (Rc d) (Zc d).toNat 0)), none, none]) dX6_hitsTried_19 (by decide) rfl ?_
  refine wp_iconst dX6_hitsTried_21 ?_
  refine wp_istore (L' := [some (vR 0), some (vI d), some (vI a), some (vI t), some (vI (kaL (Rc d) (Zc d).toNat 0)), some (vI 0), none]) dX6_hitsTried_22 (by decide) rfl ?_
  refine wp_iconst dX6_hitsTried_24 ?_
  refine wp_istore (L' := [some (vR 0), some (vI d), some (vI a), some (vI t), some (vI (kaL (Rc d) (Zc d).toNat 0)), some (vI 0), some (vI 0)]) dX6_hitsTried_25 (by decide) rfl ?_
  exact lp_ct h0 h3 h4 hS hd ha ht (by omega) (fun j q1 q2 => kaL_keys (Rc d) (Zc d).toNat 0 j q1 q2) (kaL (Rc d) (Zc d).toNat 0).toNat 0 0 f g B (by omega) (by omega) (by omega) hH hB (by omega) hg (hQ _ hz.1)
end KC
