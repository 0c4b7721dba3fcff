/-! the next order, both faces -/
def oF (n t s l m : Int) : List AV := [vR 3, vR 10, vR 11, vR 12, vR 13, vI n, vI t, vI s, vI l, vI m]
section NO_
variable {X : XS} {h : AH} {Q : Option AV → AH → Prop} {o : Int → Int} {n t0 s0 l0 m0 dn km ln at_ ft mn om fw mo un ik : Int} {c10 : AC} {b : Nat × Nat}
theorem C_swap {i j : Int} (h9 : h[9]? = some (oO 1 (oF n t0 s0 l0 m0))) (h10 : h[10]? = some c10) (hi : 0 ≤ i ∧ i < 8) (hj : 0 ≤ j ∧ j < 8) (hQ : Q none (h.set 10 (oI 8 (swO o i j)))) : Cl X kX1_swap [vR 9, vI i, vI j] (h.set 10 (oI 8 o)) Q := by
  refine cl_of rfl (Nat.le_of_ble_eq_true rfl) rfl ?_
  refine wp_aload_n dX1_swap_0 rfl ?_
  refine wp_getf dX1_swap_1 fX1_9 (gs_ne (by decide) h9) rfl ?_
  refine wp_iload_n dX1_swap_4 rfl ?_
  refine wp_iav (v := o i) dX1_swap_5 (gs_eq (gs_lt h10)) (by decide) (by omega) rfl ?_
  refine wp_istore_n (L' := [some (vR 9), some (vI i), some (vI j), some (vI (o i))]) dX1_swap_6 (by decide) rfl ?_
  refine wp_aload_n dX1_swap_7 rfl ?_
  refine wp_getf dX1_swap_8 fX1_9 (gs_ne (by decide) h9) rfl ?_
  refine wp_iload_n dX1_swap_11 rfl ?_
  refine wp_aload_n dX1_swap_12 rfl ?_
  refine wp_getf dX1_swap_13 fX1_9 (gs_ne (by decide) h9) rfl ?_
  refine wp_iload_n dX1_swap_16 rfl ?_
  refine wp_iav (v := o j) dX1_swap_17 (gs_eq (gs_lt h10)) (by decide) (by omega) rfl ?_
  refine wp_isv dX1_swap_18 (gs_eq (gs_lt h10)) (by decide) (by omega) ?_
  refine wp_aload_n dX1_swap_19 rfl ?_
  refine wp_getf dX1_swap_20 fX1_9 (gs_ne (by decide) (gs_ne (by decide) h9)) rfl ?_
  refine wp_iload_n dX1_swap_23 rfl ?_
  refine wp_iload_n dX1_swap_24 rfl ?_
  refine wp_isv dX1_swap_25 (gs_eq (gs_l (gs_lt h10))) (by decide) (by omega) ?_
  exact wp_ret dX1_swap_26 rfl (by rw [List.set_set, List.set_set]; exact hQ)
set_option maxHeartbeats 1000000 in
theorem lp_cris (h9 : h[9]? = some (oO 1 (oF n t0 s0 l0 m0))) (h10 : h[10]? = some c10) (hn : 1 ≤ n ∧ n ≤ 8) (hR : ∀ i, 0 ≤ i → i < n → r32 (o i)) : ∀ (m : Nat) (i : Int), i = m - 1 → i ≤ n - 2 → Wp X kX1_turnToNextOrder 34 [some (vR 9), some (vI (risL o m i)), none, none, none] [] (h.set 10 (oI 8 o)) b Q → Wp X kX1_turnToNextOrder 7 [some (vR 9), some (vI i), none, none, none] [] (h.set 10 (oI 8 o)) b Q := by
  intro m
  induction m with
  | zero =>
    intro i q1 q2 hQ
    refine wp_iload_n dX1_turnToNextOrder_7 rfl ?_
    refine wp_if_lt 34 dX1_turnToNextOrder_8 rfl (by first | assumption | exact hR _ (by omega) (by omega) | (unfold r32; omega)) (fun c8 => ?_) (fun c8 => ?_)
    · exact hQ
    · exfalso; omega
  | succ m ih =>
    intro i q1 q2 hQ
    unfold risL at hQ
    refine wp_iload_n dX1_turnToNextOrder_7 rfl ?_
    refine wp_if_lt 34 dX1_turnToNextOrder_8 rfl (by first | assumption | exact hR _ (by omega) (by omega) | (unfold r32; omega)) (fun c8 => ?_) (fun c8 => ?_)
    · first | (exfalso; omega) | (rw [if_neg (by omega)] at hQ; exact hQ)
    · refine wp_aload_n dX1_turnToNextOrder_11 rfl ?_
      refine wp_getf dX1_turnToNextOrder_12 fX1_9 (gs_ne (by decide) h9) rfl ?_
      refine wp_iload_n dX1_turnToNextOrder_15 rfl ?_
      refine wp_iav (v := o i) dX1_turnToNextOrder_16 (gs_eq (gs_lt h10)) (by decide) (by omega) rfl ?_
      refine wp_aload_n dX1_turnToNextOrder_17 rfl ?_
      refine wp_getf dX1_turnToNextOrder_18 fX1_9 (gs_ne (by decide) h9) rfl ?_
      refine wp_iload_n dX1_turnToNextOrder_21 rfl ?_
      refine wp_iconst dX1_turnToNextOrder_22 ?_
      refine wp_iadd dX1_turnToNextOrder_23 ?_
      refine wp_iav (v := o (i + 1)) dX1_turnToNextOrder_24 (gs_eq (gs_lt h10)) (by decide) (by omega) rfl ?_
      refine wp_icmp_lt 34 dX1_turnToNextOrder_25 rfl (by first | assumption | exact hR _ (by omega) (by omega) | (unfold r32; omega)) (by first | assumption | exact hR _ (by omega) (by omega) | (unfold r32; omega)) (fun c25 => ?_) (fun c25 => ?_)
      · first | (exfalso; omega) | (rw [if_neg (by omega)] at hQ; exact hQ)
      · refine wp_iinc (L' := [some (vR 9), some (vI (i + (-1))), none, none, none]) dX1_turnToNextOrder_28 rfl rfl ?_
        refine wp_goto 7 dX1_turnToNextOrder_31 rfl ?_
        rw [if_pos (by omega)] at hQ
        exact ih (i - 1) (by omega) (by omega) hQ
set_option maxHeartbeats 1000000 in
theorem lp_chig {r : Int} (h9 : h[9]? = some (oO 1 (oF n t0 s0 l0 m0))) (h10 : h[10]? = some c10) (hn : 1 ≤ n ∧ n ≤ 8) (hR : ∀ i, 0 ≤ i → i < n → r32 (o i)) (hr : 0 ≤ r ∧ r ≤ n - 2) (hv : o r < o (r + 1)) : ∀ (m : Nat) (j : Int), j = r + m → 1 ≤ m → j < n → Wp X kX1_turnToNextOrder 73 [some (vR 9), some (vI r), some (vI (higL o (o r) m j)), none, none] [] (h.set 10 (oI 8 o)) b Q → Wp X kX1_turnToNextOrder 47 [some (vR 9), some (vI r), some (vI j), none, none] [] (h.set 10 (oI 8 o)) b Q := by
  intro m
  induction m with
  | zero => intro j _ h; exact absurd h (by omega)
  | succ m ih =>
    intro j q1 q2 q3 hQ
    have hj : j = r + 1 → o r < o j := fun e => by rw [e]; exact hv
    unfold higL at hQ
    refine wp_iload_n dX1_turnToNextOrder_47 rfl ?_
    refine wp_iload_n dX1_turnToNextOrder_48 rfl ?_
    refine wp_icmp_le 73 dX1_turnToNextOrder_49 rfl (by first | assumption | exact hR _ (by omega) (by omega) | (unfold r32; omega)) (by first | assumption | exact hR _ (by omega) (by omega) | (unfold r32; omega)) (fun c49 => ?_) (fun c49 => ?_)
    · first | (exfalso; omega) | (rw [if_neg (by omega)] at hQ; exact hQ)
    · refine wp_aload_n dX1_turnToNextOrder_52 rfl ?_
      refine wp_getf dX1_turnToNextOrder_53 fX1_9 (gs_ne (by decide) h9) rfl ?_
      refine wp_iload_n dX1_turnToNextOrder_56 rfl ?_
      refine wp_iav (v := o j) dX1_turnToNextOrder_57 (gs_eq (gs_lt h10)) (by decide) (by omega) rfl ?_
      refine wp_aload_n dX1_turnToNextOrder_58 rfl ?_
      refine wp_getf dX1_turnToNextOrder_59 fX1_9 (gs_ne (by decide) h9) rfl ?_
      refine wp_iload_n dX1_turnToNextOrder_62 rfl ?_
      refine wp_iav (v := o r) dX1_turnToNextOrder_63 (gs_eq (gs_lt h10)) (by decide) (by omega) rfl ?_
      refine wp_icmp_gt 73 dX1_turnToNextOrder_64 rfl (by first | assumption | exact hR _ (by omega) (by omega) | (unfold r32; omega)) (by first | assumption | exact hR _ (by omega) (by omega) | (unfold r32; omega)) (fun c64 => ?_) (fun c64 => ?_)
      · first | (exfalso; omega) | (rw [if_neg (by omega)] at hQ; exact hQ)
      · refine wp_iinc (L' := [some (vR 9), some (vI r), some (vI (j + (-1))), none, none]) dX1_turnToNextOrder_67 rfl rfl ?_
        refine wp_goto 47 dX1_turnToNextOrder_70 rfl ?_
        rw [if_pos (by omega)] at hQ
        have h2 : j ≠ r + 1 := fun e => by have := hj e; omega
        exact ih (j - 1) (by omega) (by omega) (by omega) hQ
set_option maxHeartbeats 1000000 in
theorem lp_crev {r q : Int} (h9 : h[9]? = some (oO 1 (oF n t0 s0 l0 m0))) (h10 : h[10]? = some c10) (hn : 1 ≤ n ∧ n ≤ 8) : ∀ (m : Nat) (o : Int → Int) (i j : Int), j - i < 2 * m → 0 ≤ i ∧ i ≤ 8 → -1 ≤ j ∧ j < n → (∀ i' j', Wp X kX1_turnToNextOrder 113 [some (vR 9), some (vI r), some (vI q), some (vI i'), some (vI j')] [] (h.set 10 (oI 8 (revL m o i j))) b Q) → Wp X kX1_turnToNextOrder 91 [some (vR 9), some (vI r), some (vI q), some (vI i), some (vI j)] [] (h.set 10 (oI 8 o)) b Q := by
  intro m
  induction m with
  | zero =>
    intro o i j q1 q2 q3 hQ
    refine wp_iload_n dX1_turnToNextOrder_91 rfl ?_
    refine wp_iload dX1_turnToNextOrder_92 rfl ?_
    refine wp_icmp_ge 113 dX1_turnToNextOrder_94 rfl (by first | assumption | (unfold r32; omega)) (by first | assumption | (unfold r32; omega)) (fun c94 => ?_) (fun c94 => ?_)
    · exact hQ _ _
    · exfalso; omega
  | succ m ih =>
    intro o i j q1 q2 q3 hQ
    unfold revL at hQ
    refine wp_iload_n dX1_turnToNextOrder_91 rfl ?_
    refine wp_iload dX1_turnToNextOrder_92 rfl ?_
    refine wp_icmp_ge 113 dX1_turnToNextOrder_94 rfl (by first | assumption | (unfold r32; omega)) (by first | assumption | (unfold r32; omega)) (fun c94 => ?_) (fun c94 => ?_)
    · rw [if_neg (by omega)] at hQ
      exact hQ _ _
    · refine wp_aload_n dX1_turnToNextOrder_97 rfl ?_
      refine wp_iload_n dX1_turnToNextOrder_98 rfl ?_
      refine wp_iload dX1_turnToNextOrder_99 rfl ?_
      refine wp_iv2 dX1_turnToNextOrder_101 VX1_swap lX1_118 (gs_ne (by decide) h9) (rq0 rfl rfl) (Nat.le_of_ble_eq_true rfl) (C_swap h9 h10 (by omega) (by omega) ?_)
      dsimp only [pushR]
      refine wp_iinc (L' := [some (vR 9), some (vI r), some (vI q), some (vI (i + 1)), some (vI j)]) dX1_turnToNextOrder_104 rfl rfl ?_
      refine wp_iinc (L' := [some (vR 9), some (vI r), some (vI q), some (vI (i + 1)), some (vI (j + (-1)))]) dX1_turnToNextOrder_107 rfl rfl ?_
      refine wp_goto 91 dX1_turnToNextOrder_110 rfl ?_
      rw [if_pos (by omega)] at hQ
      exact ih _ (i + 1) (j - 1) (by omega) (by omega) (by omega) hQ
set_option maxHeartbeats 1000000 in
theorem C_cnext (h9 : h[9]? = some (oO 1 (oF n t0 s0 l0 m0))) (h10 : h[10]? = some c10) (hn : 1 ≤ n ∧ n ≤ 8) (hR : ∀ i, 0 ≤ i → i < n → r32 (o i)) (hQ0 : risO o n < 0 → Q (some (vI 0)) (h.set 10 (oI 8 o))) (hQ : 0 ≤ risO o n → Q (some (vI 1)) (h.set 10 (oI 8 (nxO o n)))) : Cl X kX1_turnToNextOrder [vR 9] (h.set 10 (oI 8 o)) Q := by
  refine cl_of rfl (Nat.le_of_ble_eq_true rfl) rfl ?_
  have rb := risO_b (o := o) hn.1
  have er : risL o (n - 1).toNat (n - 2) = risO o n := rfl
  refine wp_aload_n dX1_turnToNextOrder_0 rfl ?_
  refine wp_getf dX1_turnToNextOrder_1 fX1_68 (gs_ne (by decide) h9) rfl ?_
  refine wp_iconst dX1_turnToNextOrder_4 ?_
  refine wp_isub dX1_turnToNextOrder_5 ?_
  refine wp_istore_n (L' := [some (vR 9), some (vI (n - 2)), none, none, none]) dX1_turnToNextOrder_6 (by decide) rfl ?_
  refine lp_cris h9 h10 hn hR (n - 1).toNat (n - 2) (by omega) (by omega) ?_
  rw [er]
  refine wp_iload_n dX1_turnToNextOrder_34 rfl ?_
  refine wp_if_ge 40 dX1_turnToNextOrder_35 rfl (by first | assumption | exact hR _ (by omega) (by omega) | (unfold r32; omega)) (fun c35 => ?_) (fun c35 => ?_)
  · refine wp_aload_n dX1_turnToNextOrder_40 rfl ?_
    refine wp_getf dX1_turnToNextOrder_41 fX1_68 (gs_ne (by decide) h9) rfl ?_
    refine wp_iconst dX1_turnToNextOrder_44 ?_
    refine wp_isub dX1_turnToNextOrder_45 ?_
    refine wp_istore_n (L' := [some (vR 9), some (vI (risO o n)), some (vI (n - 1)), none, none]) dX1_turnToNextOrder_46 (by decide) rfl ?_
    have hb := higO_b (o := o) hn.1 (by omega)
    refine lp_chig h9 h10 hn hR (by omega) (rb.2.2 (by omega)) (n - 1 - risO o n).toNat (n - 1) (by omega) (by omega) (by omega) ?_
    have eq_ : higL o (o (risO o n)) (n - 1 - risO o n).toNat (n - 1) = higO o n := rfl
    rw [eq_]
    refine wp_aload_n dX1_turnToNextOrder_73 rfl ?_
    refine wp_iload_n dX1_turnToNextOrder_74 rfl ?_
    refine wp_iload_n dX1_turnToNextOrder_75 rfl ?_
    refine wp_iv2 dX1_turnToNextOrder_76 VX1_swap lX1_118 (gs_ne (by decide) h9) (rq0 rfl rfl) (Nat.le_of_ble_eq_true rfl) (C_swap h9 h10 (by omega) (by omega) ?_)
    dsimp only [pushR]
    refine wp_iload_n dX1_turnToNextOrder_79 rfl ?_
    refine wp_iconst dX1_turnToNextOrder_80 ?_
    refine wp_iadd dX1_turnToNextOrder_81 ?_
    refine wp_istore_n (L' := [some (vR 9), some (vI (risO o n)), some (vI (higO o n)), some (vI ((risO o n) + 1)), none]) dX1_turnToNextOrder_82 (by decide) rfl ?_
    refine wp_aload_n dX1_turnToNextOrder_83 rfl ?_
    refine wp_getf dX1_turnToNextOrder_84 fX1_68 (gs_ne (by decide) h9) rfl ?_
    refine wp_iconst dX1_turnToNextOrder_87 ?_
    refine wp_isub dX1_turnToNextOrder_88 ?_
    refine wp_istore (L' := [some (vR 9), some (vI (risO o n)), some (vI (higO o n)), some (vI ((risO o n) + 1)), some (vI (n - 1))]) dX1_turnToNextOrder_89 (by decide) rfl ?_
    refine lp_crev h9 h10 hn 8 (swO o (risO o n) (higO o n)) (risO o n + 1) (n - 1) (by omega) (by omega) (by omega) (fun i' j' => ?_)
    refine wp_iconst dX1_turnToNextOrder_113 ?_
    exact wp_zret dX1_turnToNextOrder_114 rfl (Or.inr rfl) (hQ (by omega))
  · refine wp_iconst dX1_turnToNextOrder_38 ?_
    exact wp_zret dX1_turnToNextOrder_39 rfl (Or.inl rfl) (hQ0 (by omega))
set_option maxHeartbeats 1000000 in
theorem lp_rris (m51 : h[51]? = some (oO 7 (mF dn km ln at_ ft n mn om fw mo un ik))) (m60 : h[60]? = some c10) (hn : 1 ≤ n ∧ n ≤ 8) (hR : ∀ i, 0 ≤ i → i < n → r32 (o i)) : ∀ (m : Nat) (i : Int), i = m - 1 → i ≤ n - 2 → Wp X kX7_nextOrder 34 [some (vR 51), some (vI (risL o m i)), none, none, none, none] [] (h.set 60 (oI 8 o)) b Q → Wp X kX7_nextOrder 7 [some (vR 51), some (vI i), none, none, none, none] [] (h.set 60 (oI 8 o)) b Q := by
  intro m
  induction m with
  | zero =>
    intro i q1 q2 hQ
    refine wp_iload_n dX7_nextOrder_7 rfl ?_
    refine wp_if_lt 34 dX7_nextOrder_8 rfl (by first | assumption | exact hR _ (by omega) (by omega) | (unfold r32; omega)) (fun c8 => ?_) (fun c8 => ?_)
    · exact hQ
    · exfalso; omega
  | succ m ih =>
    intro i q1 q2 hQ
    unfold risL at hQ
    refine wp_iload_n dX7_nextOrder_7 rfl ?_
    refine wp_if_lt 34 dX7_nextOrder_8 rfl (by first | assumption | exact hR _ (by omega) (by omega) | (unfold r32; omega)) (fun c8 => ?_) (fun c8 => ?_)
    · first | (exfalso; omega) | (rw [if_neg (by omega)] at hQ; exact hQ)
    · refine wp_aload_n dX7_nextOrder_11 rfl ?_
      refine wp_getf dX7_nextOrder_12 fX7_51 (gs_ne (by decide) m51) rfl ?_
      refine wp_iload_n dX7_nextOrder_15 rfl ?_
      refine wp_iav (v := o i) dX7_nextOrder_16 (gs_eq (gs_lt m60)) (by decide) (by omega) rfl ?_
      refine wp_aload_n dX7_nextOrder_17 rfl ?_
      refine wp_getf dX7_nextOrder_18 fX7_51 (gs_ne (by decide) m51) rfl ?_
      refine wp_iload_n dX7_nextOrder_21 rfl ?_
      refine wp_iconst dX7_nextOrder_22 ?_
      refine wp_iadd dX7_nextOrder_23 ?_
      refine wp_iav (v := o (i + 1)) dX7_nextOrder_24 (gs_eq (gs_lt m60)) (by decide) (by omega) rfl ?_
      refine wp_icmp_lt 34 dX7_nextOrder_25 rfl (by first | assumption | exact hR _ (by omega) (by omega) | (unfold r32; omega)) (by first | assumption | exact hR _ (by omega) (by omega) | (unfold r32; omega)) (fun c25 => ?_) (fun c25 => ?_)
      · first | (exfalso; omega) | (rw [if_neg (by omega)] at hQ; exact hQ)
      · refine wp_iinc (L' := [some (vR 51), some (vI (i + (-1))), none, none, none, none]) dX7_nextOrder_28 rfl rfl ?_
        refine wp_goto 7 dX7_nextOrder_31 rfl ?_
        rw [if_pos (by omega)] at hQ
        exact ih (i - 1) (by omega) (by omega) hQ
set_option maxHeartbeats 1000000 in
theorem lp_rhig {r : Int} (m51 : h[51]? = some (oO 7 (mF dn km ln at_ ft n mn om fw mo un ik))) (m60 : h[60]? = some c10) (hn : 1 ≤ n ∧ n ≤ 8) (hR : ∀ i, 0 ≤ i → i < n → r32 (o i)) (hr : 0 ≤ r ∧ r ≤ n - 2) (hv : o r < o (r + 1)) : ∀ (m : Nat) (j : Int), j = r + m → 1 ≤ m → j < n → Wp X kX7_nextOrder 68 [some (vR 51), some (vI r), some (vI (higL o (o r) m j)), none, none, none] [] (h.set 60 (oI 8 o)) b Q → Wp X kX7_nextOrder 47 [some (vR 51), some (vI r), some (vI j), none, none, none] [] (h.set 60 (oI 8 o)) b Q := by
  intro m
  induction m with
  | zero => intro j _ h; exact absurd h (by omega)
  | succ m ih =>
    intro j q1 q2 q3 hQ
    have hj : j = r + 1 → o r < o j := fun e => by rw [e]; exact hv
    unfold higL at hQ
    refine wp_aload_n dX7_nextOrder_47 rfl ?_
    refine wp_getf dX7_nextOrder_48 fX7_51 (gs_ne (by decide) m51) rfl ?_
    refine wp_iload_n dX7_nextOrder_51 rfl ?_
    refine wp_iav (v := o j) dX7_nextOrder_52 (gs_eq (gs_lt m60)) (by decide) (by omega) rfl ?_
    refine wp_aload_n dX7_nextOrder_53 rfl ?_
    refine wp_getf dX7_nextOrder_54 fX7_51 (gs_ne (by decide) m51) rfl ?_
    refine wp_iload_n dX7_nextOrder_57 rfl ?_
    refine wp_iav (v := o r) dX7_nextOrder_58 (gs_eq (gs_lt m60)) (by decide) (by omega) rfl ?_
    refine wp_icmp_gt 68 dX7_nextOrder_59 rfl (by first | assumption | exact hR _ (by omega) (by omega) | (unfold r32; omega)) (by first | assumption | exact hR _ (by omega) (by omega) | (unfold r32; omega)) (fun c59 => ?_) (fun c59 => ?_)
    · first | (exfalso; omega) | (rw [if_neg (by omega)] at hQ; exact hQ)
    · refine wp_iinc (L' := [some (vR 51), some (vI r), some (vI (j + (-1))), none, none, none]) dX7_nextOrder_62 rfl rfl ?_
      refine wp_goto 47 dX7_nextOrder_65 rfl ?_
      rw [if_pos (by omega)] at hQ
      have h2 : j ≠ r + 1 := fun e => by have := hj e; omega
      exact ih (j - 1) (by omega) (by omega) (by omega) hQ
set_option maxHeartbeats 1000000 in
theorem lp_rrev {r q : Int} (m51 : h[51]? = some (oO 7 (mF dn km ln at_ ft n mn om fw mo un ik))) (m60 : h[60]? = some c10) (hn : 1 ≤ n ∧ n ≤ 8) : ∀ (m : Nat) (o : Int → Int) (i j y3 : Int), j - i < 2 * m → 0 ≤ i ∧ i ≤ 8 → -1 ≤ j ∧ j < n → (∀ i' j' y3', Wp X kX7_nextOrder 153 [some (vR 51), some (vI r), some (vI q), some (vI y3'), some (vI i'), some (vI j')] [] (h.set 60 (oI 8 (revL m o i j))) b Q) → Wp X kX7_nextOrder 107 [some (vR 51), some (vI r), some (vI q), some (vI y3), some (vI i), some (vI j)] [] (h.set 60 (oI 8 o)) b Q := by
  intro m
  induction m with
  | zero =>
    intro o i j y3 q1 q2 q3 hQ
    refine wp_iload dX7_nextOrder_107 rfl ?_
    refine wp_iload dX7_nextOrder_109 rfl ?_
    refine wp_icmp_ge 153 dX7_nextOrder_111 rfl (by first | assumption | (unfold r32; omega)) (by first | assumption | (unfold r32; omega)) (fun c111 => ?_) (fun c111 => ?_)
    · exact hQ _ _ _
    · exfalso; omega
  | succ m ih =>
    intro o i j y3 q1 q2 q3 hQ
    unfold revL at hQ
    refine wp_iload dX7_nextOrder_107 rfl ?_
    refine wp_iload dX7_nextOrder_109 rfl ?_
    refine wp_icmp_ge 153 dX7_nextOrder_111 rfl (by first | assumption | (unfold r32; omega)) (by first | assumption | (unfold r32; omega)) (fun c111 => ?_) (fun c111 => ?_)
    · rw [if_neg (by omega)] at hQ
      exact hQ _ _ _
    · refine wp_aload_n dX7_nextOrder_114 rfl ?_
      refine wp_getf dX7_nextOrder_115 fX7_51 (gs_ne (by decide) m51) rfl ?_
      refine wp_iload dX7_nextOrder_118 rfl ?_
      refine wp_iav (v := o i) dX7_nextOrder_120 (gs_eq (gs_lt m60)) (by decide) (by omega) rfl ?_
      refine wp_istore_n (L' := [some (vR 51), some (vI r), some (vI q), some (vI (o i)), some (vI i), some (vI j)]) dX7_nextOrder_121 (by decide) rfl ?_
      refine wp_aload_n dX7_nextOrder_122 rfl ?_
      refine wp_getf dX7_nextOrder_123 fX7_51 (gs_ne (by decide) m51) rfl ?_
      refine wp_iload dX7_nextOrder_126 rfl ?_
      refine wp_aload_n dX7_nextOrder_128 rfl ?_
      refine wp_getf dX7_nextOrder_129 fX7_51 (gs_ne (by decide) m51) rfl ?_
      refine wp_iload dX7_nextOrder_132 rfl ?_
      refine wp_iav (v := o j) dX7_nextOrder_134 (gs_eq (gs_lt m60)) (by decide) (by omega) rfl ?_
      refine wp_isv dX7_nextOrder_135 (gs_eq (gs_lt m60)) (by decide) (by omega) ?_
      refine wp_aload_n dX7_nextOrder_136 rfl ?_
      refine wp_getf dX7_nextOrder_137 fX7_51 (gs_ne (by decide) (gs_ne (by decide) m51)) rfl ?_
      refine wp_iload dX7_nextOrder_140 rfl ?_
      refine wp_iload_n dX7_nextOrder_142 rfl ?_
      refine wp_isv dX7_nextOrder_143 (gs_eq (gs_l (gs_lt m60))) (by decide) (by omega) ?_
      refine wp_iinc (L' := [some (vR 51), some (vI r), some (vI q), some (vI (o i)), some (vI (i + 1)), some (vI j)]) dX7_nextOrder_144 rfl rfl ?_
      refine wp_iinc (L' := [some (vR 51), some (vI r), some (vI q), some (vI (o i)), some (vI (i + 1)), some (vI (j + (-1)))]) dX7_nextOrder_147 rfl rfl ?_
      refine wp_goto 107 dX7_nextOrder_150 rfl ?_
      rw [if_pos (by omega)] at hQ
      rw [List.set_set, List.set_set]
      exact ih _ (i + 1) (j - 1) _ (by omega) (by omega) (by omega) hQ
set_option maxHeartbeats 1000000 in
theorem C_rnext (m51 : h[51]? = some (oO 7 (mF dn km ln at_ ft n mn om fw mo un ik))) (m60 : h[60]? = some c10) (hn : 1 ≤ n ∧ n ≤ 8) (hR : ∀ i, 0 ≤ i → i < n → r32 (o i)) (hQ0 : risO o n < 0 → Q (some (vI 0)) (h.set 60 (oI 8 o))) (hQ : 0 ≤ risO o n → Q (some (vI 1)) (h.set 60 (oI 8 (nxO o n)))) : Cl X kX7_nextOrder [vR 51] (h.set 60 (oI 8 o)) Q := by
  refine cl_of rfl (Nat.le_of_ble_eq_true rfl) rfl ?_
  have rb := risO_b (o := o) hn.1
  have er : risL o (n - 1).toNat (n - 2) = risO o n := rfl
  refine wp_aload_n dX7_nextOrder_0 rfl ?_
  refine wp_getf dX7_nextOrder_1 fX7_257 (gs_ne (by decide) m51) rfl ?_
  refine wp_iconst dX7_nextOrder_4 ?_
  refine wp_isub dX7_nextOrder_5 ?_
  refine wp_istore_n (L' := [some (vR 51), some (vI (n - 2)), none, none, none, none]) dX7_nextOrder_6 (by decide) rfl ?_
  refine lp_rris m51 m60 hn hR (n - 1).toNat (n - 2) (by omega) (by omega) ?_
  rw [er]
  refine wp_iload_n dX7_nextOrder_34 rfl ?_
  refine wp_if_ge 40 dX7_nextOrder_35 rfl (by first | assumption | exact hR _ (by omega) (by omega) | (unfold r32; omega)) (fun c35 => ?_) (fun c35 => ?_)
  · refine wp_aload_n dX7_nextOrder_40 rfl ?_
    refine wp_getf dX7_nextOrder_41 fX7_257 (gs_ne (by decide) m51) rfl ?_
    refine wp_iconst dX7_nextOrder_44 ?_
    refine wp_isub dX7_nextOrder_45 ?_
    refine wp_istore_n (L' := [some (vR 51), some (vI (risO o n)), some (vI (n - 1)), none, none, none]) dX7_nextOrder_46 (by decide) rfl ?_
    have hb := higO_b (o := o) hn.1 (by omega)
    refine lp_rhig m51 m60 hn hR (by omega) (rb.2.2 (by omega)) (n - 1 - risO o n).toNat (n - 1) (by omega) (by omega) (by omega) ?_
    have eq_ : higL o (o (risO o n)) (n - 1 - risO o n).toNat (n - 1) = higO o n := rfl
    rw [eq_]
    refine wp_aload_n dX7_nextOrder_68 rfl ?_
    refine wp_getf dX7_nextOrder_69 fX7_51 (gs_ne (by decide) m51) rfl ?_
    refine wp_iload_n dX7_nextOrder_72 rfl ?_
    refine wp_iav (v := o (risO o n)) dX7_nextOrder_73 (gs_eq (gs_lt m60)) (by decide) (by omega) rfl ?_
    refine wp_istore_n (L' := [some (vR 51), some (vI (risO o n)), some (vI (higO o n)), some (vI (o (risO o n))), none, none]) dX7_nextOrder_74 (by decide) rfl ?_
    refine wp_aload_n dX7_nextOrder_75 rfl ?_
    refine wp_getf dX7_nextOrder_76 fX7_51 (gs_ne (by decide) m51) rfl ?_
    refine wp_iload_n dX7_nextOrder_79 rfl ?_
    refine wp_aload_n dX7_nextOrder_80 rfl ?_
    refine wp_getf dX7_nextOrder_81 fX7_51 (gs_ne (by decide) m51) rfl ?_
    refine wp_iload_n dX7_nextOrder_84 rfl ?_
    refine wp_iav (v := o (higO o n)) dX7_nextOrder_85 (gs_eq (gs_lt m60)) (by decide) (by omega) rfl ?_
    refine wp_isv dX7_nextOrder_86 (gs_eq (gs_lt m60)) (by decide) (by omega) ?_
    refine wp_aload_n dX7_nextOrder_87 rfl ?_
    refine wp_getf dX7_nextOrder_88 fX7_51 (gs_ne (by decide) (gs_ne (by decide) m51)) rfl ?_
    refine wp_iload_n dX7_nextOrder_91 rfl ?_
    refine wp_iload_n dX7_nextOrder_92 rfl ?_
    refine wp_isv dX7_nextOrder_93 (gs_eq (gs_l (gs_lt m60))) (by decide) (by omega) ?_
    refine wp_iload_n dX7_nextOrder_94 rfl ?_
    refine wp_iconst dX7_nextOrder_95 ?_
    refine wp_iadd dX7_nextOrder_96 ?_
    refine wp_istore (L' := [some (vR 51), some (vI (risO o n)), some (vI (higO o n)), some (vI (o (risO o n))), some (vI ((risO o n) + 1)), none]) dX7_nextOrder_97 (by decide) rfl ?_
    refine wp_aload_n dX7_nextOrder_99 rfl ?_
    refine wp_getf dX7_nextOrder_100 fX7_257 (gs_ne (by decide) (gs_ne (by decide) (gs_ne (by decide) m51))) rfl ?_
    refine wp_iconst dX7_nextOrder_103 ?_
    refine wp_isub dX7_nextOrder_104 ?_
    refine wp_istore (L' := [some (vR 51), some (vI (risO o n)), some (vI (higO o n)), some (vI (o (risO o n))), some (vI ((risO o n) + 1)), some (vI (n - 1))]) dX7_nextOrder_105 (by decide) rfl ?_
    rw [List.set_set, List.set_set]
    refine lp_rrev m51 m60 hn 8 (swO o (risO o n) (higO o n)) (risO o n + 1) (n - 1) _ (by omega) (by omega) (by omega) (fun i' j' y3' => ?_)
    refine wp_iconst dX7_nextOrder_153 ?_
    exact wp_zret dX7_nextOrder_154 rfl (Or.inr rfl) (hQ (by omega))
  · refine wp_iconst dX7_nextOrder_38 ?_
    exact wp_zret dX7_nextOrder_39 rfl (Or.inl rfl) (hQ0 (by omega))
end NO_
