/-! the first order, both faces -/
def PLAN (x : Int) (sz : Int → Int) : Prop := (0 < x ∧ x < 64) ∧ cnt (clF x) ≤ 3 ∧ ∀ c, 0 ≤ c ∧ c < 6 → clF x c = 1 → sz c ≠ 0
def aoL (cl sz : Int → Int) : Nat → Int → Int → Int
  | 0, _, n => n
  | m + 1, c, n => aoL cl sz m (c + 1) (if cl c = 1 then n + sz c else n)
def boI (c : Int) : Nat → Int → (Int → Int) → Int × (Int → Int)
  | 0, n, o => (n, o)
  | m + 1, n, o => boI c m (n + 1) (ud o n c)
def boL (cl sz : Int → Int) : Nat → Int → Int → (Int → Int) → Int × (Int → Int)
  | 0, _, n, o => (n, o)
  | m + 1, c, n, o => if cl c = 1 then boL cl sz m (c + 1) (boI c (sz c).toNat n o).1 (boI c (sz c).toNat n o).2 else boL cl sz m (c + 1) n o
section FO_
variable {X : XS} {h : AH} {Q : Option AV → AH → Prop} {cl sz o PS P : Int → Int} {n x t0 s0 l0 m0 dn km ln at_ ft ac mn om fw mo un ik : Int} {c9 c10 : AC} {b : Nat × Nat} {K Fs S : Int → Int → Int} {pl : Int → Nat} {sp kp : AV}
theorem aoL_b (hs : ∀ c, 0 ≤ c ∧ c < 6 → 0 ≤ sz c ∧ sz c ≤ 5) : ∀ (m : Nat) (c n : Int), c + m = 6 → 0 ≤ c → n ≤ aoL cl sz m c n ∧ aoL cl sz m c n ≤ n + 5 * m := by
  intro m
  induction m with
  | zero => intro c n _ _; exact ⟨Int.le_refl _, by show n ≤ n + 5 * ((0 : Nat) : Int); omega⟩
  | succ m ih =>
    intro c n h1 h2
    have s := hs c (by omega)
    unfold aoL
    split
    · have := ih (c + 1) (n + sz c) (by omega) (by omega); omega
    · have := ih (c + 1) n (by omega) (by omega); omega
theorem boI_1 {c : Int} : ∀ (m : Nat) (n : Int) (o : Int → Int), (boI c m n o).1 = n + m := by
  intro m
  induction m with
  | zero => intro n o; show n = n + ((0 : Nat) : Int); omega
  | succ m ih => intro n o; unfold boI; rw [ih]; omega
theorem boL_1 (hs : ∀ c, 0 ≤ c ∧ c < 6 → 0 ≤ sz c ∧ sz c ≤ 5) : ∀ (m : Nat) (c n : Int) (o : Int → Int), c + m = 6 → 0 ≤ c → (boL cl sz m c n o).1 = aoL cl sz m c n := by
  intro m
  induction m with
  | zero => intro c n o _ _; rfl
  | succ m ih =>
    intro c n o h1 h2
    have s := hs c (by omega)
    unfold boL aoL
    split
    · rw [ih _ _ _ (by omega) (by omega), boI_1, show n + ((sz c).toNat : Int) = n + sz c by omega]
    · exact ih _ _ _ (by omega) (by omega)
theorem cnt_ext {c v : Int} {m : Nat} (e : n = m) : cntO (ud o n v) c (m + 1) = cntO o c m + (if v = c then 1 else 0) := by
  subst e
  have q := cnt_ud (o := o) (c := c) (i := (m : Int)) (v := v) m
  rw [if_neg (by omega), Int.add_zero] at q
  show cntO (ud o (m : Int) v) c m + (if ud o (m : Int) v m = c then 1 else 0) = _
  rw [q, ud_eq]
/-- what a first order keeps to, client by client -/
theorem boI_ok {c : Int} (hc : 0 ≤ c ∧ c < 6) (h1 : cl c = 1) : ∀ (m : Nat) (n : Int) (o : Int → Int), 0 ≤ n → INo cl o n → INo cl (boI c m n o).2 (boI c m n o).1 ∧ ∀ d, cntO (boI c m n o).2 d (boI c m n o).1.toNat = cntO o d n.toNat + (if c = d then (m : Int) else 0) := by
  intro m
  induction m with
  | zero => intro n o hn hI; exact ⟨hI, fun d => by show cntO o d n.toNat = cntO o d n.toNat + (if c = d then ((0 : Nat) : Int) else 0); split <;> omega⟩
  | succ m ih =>
    intro n o hn hI
    have e : (n + 1).toNat = n.toNat + 1 := by omega
    have w := ih (n + 1) (ud o n c) (by omega) (fun i hi => by
      rcases Decidable.em (i = n) with q | q
      · rw [q, ud_eq]; exact ⟨hc, h1⟩
      · rw [ud_ne q]; exact hI i (by omega))
    unfold boI
    refine ⟨w.1, fun d => ?_⟩
    rw [w.2 d, e, cnt_ext (by omega)]
    (repeat' split) <;> omega
theorem boL_ok (hs : ∀ c, 0 ≤ c ∧ c < 6 → 0 ≤ sz c ∧ sz c ≤ 5) : ∀ (m : Nat) (c n : Int) (o : Int → Int), c + m = 6 → 0 ≤ c → 0 ≤ n → INo cl o n → (∀ d, 0 ≤ d ∧ d < 6 → cntO o d n.toNat = if d < c ∧ cl d = 1 then sz d else 0) → INo cl (boL cl sz m c n o).2 (boL cl sz m c n o).1 ∧ ∀ d, 0 ≤ d ∧ d < 6 → cntO (boL cl sz m c n o).2 d (boL cl sz m c n o).1.toNat = if cl d = 1 then sz d else 0 := by
  intro m
  induction m with
  | zero =>
    intro c n o h1 h2 h3 hI hd
    exact ⟨hI, fun d h => by show cntO o d n.toNat = _; rw [hd d h]; (repeat' split) <;> omega⟩
  | succ m ih =>
    intro c n o h1 h2 h3 hI hd
    have s := hs c (by omega)
    unfold boL
    split
    · rename_i c1
      have w := boI_ok (cl := cl) ⟨h2, by omega⟩ c1 (sz c).toNat n o h3 hI
      have l := boI_1 (c := c) (sz c).toNat n o
      refine ih _ _ _ (by omega) (by omega) (by omega) w.1 (fun d h => ?_)
      rw [w.2 d, hd d h]
      rcases Decidable.em (c = d) with e | e
      · subst e; rw [if_neg (by omega), if_pos rfl, if_pos (by omega)]; omega
      · rw [if_neg e]; (repeat' split) <;> omega
    · rename_i c1
      refine ih _ _ _ (by omega) (by omega) h3 hI (fun d h => ?_)
      rw [hd d h]
      rcases Decidable.em (c = d) with e | e
      · subst e; rw [if_neg (by omega), if_neg (by omega)]
      · (repeat' split) <;> omega
-- the class
set_option maxHeartbeats 1000000 in
theorem lp_pl (h0 : h[0]? = some (oO 6 (cF sp kp))) (hP : PL h pl K Fs S sz) (hx : 0 ≤ x ∧ x < 64) (hsz : ∀ c, 0 ≤ c ∧ c < 6 → r32 (sz c)) (hQ1 : (∀ c, 0 ≤ c ∧ c < 6 → clF x c = 1 → sz c ≠ 0) → Q (some (vI 1)) h) (hQ0 : ¬ (∀ c, 0 ≤ c ∧ c < 6 → clF x c = 1 → sz c ≠ 0) → Q (some (vI 0)) h) : ∀ (m : Nat) (c : Int), c + m = 6 → 0 ≤ c → (∀ d, 0 ≤ d ∧ d < c → clF x d = 1 → sz d ≠ 0) → Wp X kX6_arePlanners 22 [some (vR 0), some (vI x), some (vI c)] [] h b Q := by
  intro m
  induction m with
  | zero =>
    intro c q1 q2 hz
    refine wp_iload_n dX6_arePlanners_22 rfl ?_
    refine wp_bipush dX6_arePlanners_23 rfl ?_
    refine wp_icmp_ge 57 dX6_arePlanners_25 rfl (by first | assumption | exact hsz _ (by omega) | (unfold r32; omega)) ⟨by omega, by omega⟩ (fun c25 => ?_) (fun c25 => ?_)
    · refine wp_iconst dX6_arePlanners_57 ?_
      exact wp_zret dX6_arePlanners_58 rfl (Or.inr rfl) (hQ1 (fun d hd => hz d (by omega)))
    · exfalso; omega
  | succ m ih =>
    intro c q1 q2 hz
    have c01 := clF_wb (x := x) c
    refine wp_iload_n dX6_arePlanners_22 rfl ?_
    refine wp_bipush dX6_arePlanners_23 rfl ?_
    refine wp_icmp_ge 57 dX6_arePlanners_25 rfl (by first | assumption | exact hsz _ (by omega) | (unfold r32; omega)) ⟨by omega, by omega⟩ (fun c25 => ?_) (fun c25 => ?_)
    · refine wp_iconst dX6_arePlanners_57 ?_
      exact wp_zret dX6_arePlanners_58 rfl (Or.inr rfl) (by first | (exfalso; omega) | exact hQ0 (fun q => q c (by omega) (by omega) (by omega)))
    · refine wp_iload_n dX6_arePlanners_28 rfl ?_
      refine wp_iload_n dX6_arePlanners_29 rfl ?_
      refine wp_ishr (z := x / pw c) dX6_arePlanners_30 (sr_x hx (by omega)).1 ?_
      refine wp_iconst dX6_arePlanners_31 ?_
      refine wp_iand (z := clF x c) dX6_arePlanners_32 (s1_x hx (by omega)) ?_
      refine wp_iconst dX6_arePlanners_33 ?_
      refine wp_icmp_ne 51 dX6_arePlanners_34 rfl (by first | assumption | exact hsz _ (by omega) | (unfold r32; omega)) ⟨by omega, by omega⟩ (fun c34 => ?_) (fun c34 => ?_)
      · refine wp_iinc (L' := [some (vR 0), some (vI x), some (vI (c + 1))]) dX6_arePlanners_51 rfl rfl ?_
        refine wp_goto 22 dX6_arePlanners_54 rfl ?_
        exact ih (c + 1) (by omega) (by omega) (fun d hd h1 => by rcases Decidable.em (d = c) with e | e; rw [e] at h1 ⊢; omega; exact hz d (by omega) h1)
      · refine wp_aload_n dX6_arePlanners_37 rfl ?_
        refine wp_getf dX6_arePlanners_38 fX6_54 h0 rfl ?_
        refine wp_iload_n dX6_arePlanners_41 rfl ?_
        refine wp_aav (j' := (pl c)) dX6_arePlanners_42 hP.1 (by decide) (by omega) (plF_at (by omega)) ?_
        refine wp_getf dX6_arePlanners_43 fX6_323 (hP.2.1 c (by omega)).2.1 rfl ?_
        refine wp_if_ne 51 dX6_arePlanners_46 rfl (by first | assumption | exact hsz _ (by omega) | (unfold r32; omega)) (fun c46 => ?_) (fun c46 => ?_)
        · refine wp_iinc (L' := [some (vR 0), some (vI x), some (vI (c + 1))]) dX6_arePlanners_51 rfl rfl ?_
          refine wp_goto 22 dX6_arePlanners_54 rfl ?_
          exact ih (c + 1) (by omega) (by omega) (fun d hd h1 => by rcases Decidable.em (d = c) with e | e; rw [e] at h1 ⊢; omega; exact hz d (by omega) h1)
        · refine wp_iconst dX6_arePlanners_49 ?_
          exact wp_zret dX6_arePlanners_50 rfl (Or.inl rfl) (by first | (exfalso; omega) | exact hQ0 (fun q => q c (by omega) (by omega) (by omega)))
theorem C_arePlanners (h0 : h[0]? = some (oO 6 (cF sp kp))) (hP : PL h pl K Fs S sz) (rx : r32 x) (hsz : ∀ c, 0 ≤ c ∧ c < 6 → r32 (sz c)) (hQ1 : PLAN x sz → Q (some (vI 1)) h) (hQ0 : ¬ PLAN x sz → Q (some (vI 0)) h) : Cl X kX6_arePlanners [vR 0, vI x] h Q := by
  refine cl_of rfl (Nat.le_of_ble_eq_true rfl) rfl ?_
  have cb := cnt_b (clF_wb (x := x)).b
  unfold PLAN at *
  refine wp_iload_n dX6_arePlanners_0 rfl ?_
  refine wp_if_le 18 dX6_arePlanners_1 rfl (by first | assumption | exact hsz _ (by omega) | (unfold r32; omega)) (fun c1 => ?_) (fun c1 => ?_)
  · refine wp_iconst dX6_arePlanners_18 ?_
    exact wp_zret dX6_arePlanners_19 rfl (Or.inl rfl) (hQ0 (fun q => by omega))
  · refine wp_iload_n dX6_arePlanners_4 rfl ?_
    refine wp_bipush dX6_arePlanners_5 rfl ?_
    refine wp_icmp_ge 18 dX6_arePlanners_7 rfl (by first | assumption | exact hsz _ (by omega) | (unfold r32; omega)) ⟨by omega, by omega⟩ (fun c7 => ?_) (fun c7 => ?_)
    · refine wp_iconst dX6_arePlanners_18 ?_
      exact wp_zret dX6_arePlanners_19 rfl (Or.inl rfl) (hQ0 (fun q => by omega))
    · refine wp_iload_n dX6_arePlanners_10 rfl ?_
      have ex := clF_bs (x := x) (by omega)
      refine wp_is1 dX6_arePlanners_11 SJ6_bitCount_0f7a4 lX6_282 (rq0 rfl rfl) (Nat.le_of_ble_eq_true rfl) (C_bitCount (by omega) ?_)
      dsimp only [pushR]
      have eb : bc10 x = cnt (clF x) := by rw [← bc_bs (clF_wb (x := x)).b, ex]
      rw [eb]
      refine wp_iconst dX6_arePlanners_14 ?_
      refine wp_icmp_le 20 dX6_arePlanners_15 rfl (by first | assumption | exact hsz _ (by omega) | (unfold r32; omega)) ⟨by omega, by omega⟩ (fun c15 => ?_) (fun c15 => ?_)
      · refine wp_iconst dX6_arePlanners_20 ?_
        refine wp_istore_n (L' := [some (vR 0), some (vI x), some (vI 0)]) dX6_arePlanners_21 (by decide) rfl ?_
        exact lp_pl h0 hP (by omega) hsz (fun q => hQ1 ⟨by omega, by omega, q⟩) (fun q => hQ0 (fun z => q z.2.2)) 6 0 (by omega) (by omega) (fun d hd => by omega)
      · refine wp_iconst dX6_arePlanners_18 ?_
        exact wp_zret dX6_arePlanners_19 rfl (Or.inl rfl) (hQ0 (fun q => by omega))
set_option maxHeartbeats 1000000 in
theorem lp_ao (h0 : h[0]? = some (oO 6 (cF sp kp))) (hP : PL h pl K Fs S sz) (hx : 0 ≤ x ∧ x < 64) : ∀ (m : Nat) (c n : Int), c + m = 6 → 0 ≤ c → Q (some (vI (aoL (clF x) sz m c n))) h → Wp X kX6_actsOf 4 [some (vR 0), some (vI x), some (vI n), some (vI c)] [] h b Q := by
  intro m
  induction m with
  | zero =>
    intro c n q1 q2 hQ
    refine wp_iload_n dX6_actsOf_4 rfl ?_
    refine wp_bipush dX6_actsOf_5 rfl ?_
    refine wp_icmp_ge 37 dX6_actsOf_7 rfl (by first | assumption | (unfold r32; omega)) ⟨by omega, by omega⟩ (fun c7 => ?_) (fun c7 => ?_)
    · refine wp_iload_n dX6_actsOf_37 rfl ?_
      exact wp_iret dX6_actsOf_38 rfl hQ
    · exfalso; omega
  | succ m ih =>
    intro c n q1 q2 hQ
    have c01 := clF_wb (x := x) c
    unfold aoL at hQ
    refine wp_iload_n dX6_actsOf_4 rfl ?_
    refine wp_bipush dX6_actsOf_5 rfl ?_
    refine wp_icmp_ge 37 dX6_actsOf_7 rfl (by first | assumption | (unfold r32; omega)) ⟨by omega, by omega⟩ (fun c7 => ?_) (fun c7 => ?_)
    · refine wp_iload_n dX6_actsOf_37 rfl ?_
      exact wp_iret dX6_actsOf_38 rfl (False.elim (by omega))
    · refine wp_iload_n dX6_actsOf_10 rfl ?_
      refine wp_iload_n dX6_actsOf_11 rfl ?_
      refine wp_ishr (z := x / pw c) dX6_actsOf_12 (sr_x hx (by omega)).1 ?_
      refine wp_iconst dX6_actsOf_13 ?_
      refine wp_iand (z := clF x c) dX6_actsOf_14 (s1_x hx (by omega)) ?_
      refine wp_iconst dX6_actsOf_15 ?_
      refine wp_icmp_ne 31 dX6_actsOf_16 rfl (by first | assumption | (unfold r32; omega)) ⟨by omega, by omega⟩ (fun c16 => ?_) (fun c16 => ?_)
      · refine wp_iinc (L' := [some (vR 0), some (vI x), some (vI n), some (vI (c + 1))]) dX6_actsOf_31 rfl rfl ?_
        refine wp_goto 4 dX6_actsOf_34 rfl ?_
        rw [if_neg (by omega)] at hQ
        exact ih (c + 1) _ (by omega) (by omega) hQ
      · refine wp_iload_n dX6_actsOf_19 rfl ?_
        refine wp_aload_n dX6_actsOf_20 rfl ?_
        refine wp_getf dX6_actsOf_21 fX6_54 h0 rfl ?_
        refine wp_iload_n dX6_actsOf_24 rfl ?_
        refine wp_aav (j' := (pl c)) dX6_actsOf_25 hP.1 (by decide) (by omega) (plF_at (by omega)) ?_
        refine wp_getf dX6_actsOf_26 fX6_323 (hP.2.1 c (by omega)).2.1 rfl ?_
        refine wp_iadd dX6_actsOf_29 ?_
        refine wp_istore_n (L' := [some (vR 0), some (vI x), some (vI (n + sz c)), some (vI c)]) dX6_actsOf_30 (by decide) rfl ?_
        refine wp_iinc (L' := [some (vR 0), some (vI x), some (vI (n + sz c)), some (vI (c + 1))]) dX6_actsOf_31 rfl rfl ?_
        refine wp_goto 4 dX6_actsOf_34 rfl ?_
        rw [if_pos (by omega)] at hQ
        exact ih (c + 1) _ (by omega) (by omega) hQ
theorem C_actsOf (h0 : h[0]? = some (oO 6 (cF sp kp))) (hP : PL h pl K Fs S sz) (hx : 0 ≤ x ∧ x < 64) (hQ : Q (some (vI (aoL (clF x) sz 6 0 0))) h) : Cl X kX6_actsOf [vR 0, vI x] h Q := by
  refine cl_of rfl (Nat.le_of_ble_eq_true rfl) rfl ?_
  refine wp_iconst dX6_actsOf_0 ?_
  refine wp_istore_n (L' := [some (vR 0), some (vI x), some (vI 0), none]) dX6_actsOf_1 (by decide) rfl ?_
  refine wp_iconst dX6_actsOf_2 ?_
  refine wp_istore_n (L' := [some (vR 0), some (vI x), some (vI 0), some (vI 0)]) dX6_actsOf_3 (by decide) rfl ?_
  exact lp_ao h0 hP hx 6 0 0 (by omega) (by omega) hQ
set_option maxHeartbeats 1000000 in
theorem lp_bi {c k : Int} (h9 : h[9]? = some c9) (h10 : h[10]? = some c10) (hP : PL h pl K Fs S sz) (hk : k ≤ 8) : ∀ (m : Nat) (i n : Int) (o : Int → Int), i + m = k → 0 ≤ i → 0 ≤ n → n + m ≤ 8 → (∀ i', Wp X kX1_beginOrder 79 [some (vR 9), some (vR 16), some (vI x), some (vI c), some (vI k), some (vI i')] [] ((h.set 9 (oO 1 (oF (boI c m n o).1 t0 s0 l0 m0))).set 10 (oI 8 (boI c m n o).2)) b Q) → Wp X kX1_beginOrder 37 [some (vR 9), some (vR 16), some (vI x), some (vI c), some (vI k), some (vI i)] [] ((h.set 9 (oO 1 (oF n t0 s0 l0 m0))).set 10 (oI 8 o)) b Q := by
  intro m
  induction m with
  | zero =>
    intro i n o q1 q2 q3 q4 hQ
    refine wp_iload dX1_beginOrder_37 rfl ?_
    refine wp_iload dX1_beginOrder_39 rfl ?_
    refine wp_icmp_ge 79 dX1_beginOrder_41 rfl (by first | assumption | (unfold r32; omega)) (by first | assumption | (unfold r32; omega)) (fun c41 => ?_) (fun c41 => ?_)
    · exact hQ _
    · exfalso; omega
  | succ m ih =>
    intro i n o q1 q2 q3 q4 hQ
    unfold boI at hQ
    refine wp_iload dX1_beginOrder_37 rfl ?_
    refine wp_iload dX1_beginOrder_39 rfl ?_
    refine wp_icmp_ge 79 dX1_beginOrder_41 rfl (by first | assumption | (unfold r32; omega)) (by first | assumption | (unfold r32; omega)) (fun c41 => ?_) (fun c41 => ?_)
    · exfalso; omega
    · refine wp_aload_n dX1_beginOrder_44 rfl ?_
      refine wp_getf dX1_beginOrder_45 fX1_68 (gs_ne (by decide) (gs_eq (gs_lt h9))) rfl ?_
      refine wp_bipush dX1_beginOrder_48 rfl ?_
      refine wp_icmp_ge 79 dX1_beginOrder_50 rfl (by first | assumption | (unfold r32; omega)) ⟨by omega, by omega⟩ (fun c50 => ?_) (fun c50 => ?_)
      · exfalso; omega
      · refine wp_aload_n dX1_beginOrder_53 rfl ?_
        refine wp_getf dX1_beginOrder_54 fX1_9 (gs_ne (by decide) (gs_eq (gs_lt h9))) rfl ?_
        refine wp_aload_n dX1_beginOrder_57 rfl ?_
        refine wp_getf dX1_beginOrder_58 fX1_68 (gs_ne (by decide) (gs_eq (gs_lt h9))) rfl ?_
        refine wp_iload_n dX1_beginOrder_61 rfl ?_
        refine wp_isv dX1_beginOrder_62 (gs_eq (gs_l (gs_lt h10))) (by decide) (by omega) ?_
        refine wp_aload_n dX1_beginOrder_63 rfl ?_
        refine wp_dup dX1_beginOrder_64 rfl ?_
        refine wp_getf dX1_beginOrder_65 fX1_68 (gs_ne (by decide) (gs_ne (by decide) (gs_eq (gs_lt h9)))) rfl ?_
        refine wp_iconst dX1_beginOrder_68 ?_
        refine wp_iadd dX1_beginOrder_69 ?_
        refine wp_putv (fs' := oF (n + 1) t0 s0 l0 m0) dX1_beginOrder_70 (pX1_68 rfl) (gs_ne (by decide) (gs_ne (by decide) (gs_eq (gs_lt h9)))) (Nat.le_of_ble_eq_true rfl) (fitF_int _) rfl ?_
        refine wp_iinc (L' := [some (vR 9), some (vR 16), some (vI x), some (vI c), some (vI k), some (vI (i + 1))]) dX1_beginOrder_73 rfl rfl ?_
        refine wp_goto 37 dX1_beginOrder_76 rfl ?_
        rw [List.set_comm _ _ (show (10 : Nat) ≠ 9 by decide), List.set_comm _ _ (show (10 : Nat) ≠ 9 by decide), List.set_set, List.set_set]
        exact ih (i + 1) (n + 1) (ud o n c) (by omega) (by omega) (by omega) (by omega) hQ
set_option maxHeartbeats 1000000 in
theorem lp_bo (h9 : h[9]? = some c9) (h10 : h[10]? = some c10) (hP : PL h pl K Fs S sz) (hs : ∀ c, 0 ≤ c ∧ c < 6 → 0 ≤ sz c ∧ sz c ≤ 5) (hx : 0 ≤ x ∧ x < 64) : ∀ (m : Nat) (c n : Int) (o : Int → Int) (y4 y5 : Option AV), c + m = 6 → 0 ≤ c → 0 ≤ n → aoL (clF x) sz m c n ≤ 8 → Q none ((h.set 9 (oO 1 (oF (boL (clF x) sz m c n o).1 t0 s0 l0 m0))).set 10 (oI 8 (boL (clF x) sz m c n o).2)) → Wp X kX1_beginOrder 7 [some (vR 9), some (vR 16), some (vI x), some (vI c), y4, y5] [] ((h.set 9 (oO 1 (oF n t0 s0 l0 m0))).set 10 (oI 8 o)) b Q := by
  intro m
  induction m with
  | zero =>
    intro c n o y4 y5 q1 q2 q3 q4 hQ
    refine wp_iload_n dX1_beginOrder_7 rfl ?_
    refine wp_bipush dX1_beginOrder_8 rfl ?_
    refine wp_icmp_ge 85 dX1_beginOrder_10 rfl (by first | assumption | (unfold r32; omega)) ⟨by omega, by omega⟩ (fun c10 => ?_) (fun c10 => ?_)
    · exact wp_ret dX1_beginOrder_85 rfl hQ
    · exfalso; omega
  | succ m ih =>
    intro c n o y4 y5 q1 q2 q3 q4 hQ
    have sc := hs c (by omega)
    have c01 := clF_wb (x := x) c
    have pb := (hP.2.1 c (by omega)).1
    unfold boL at hQ
    unfold aoL at q4
    refine wp_iload_n dX1_beginOrder_7 rfl ?_
    refine wp_bipush dX1_beginOrder_8 rfl ?_
    refine wp_icmp_ge 85 dX1_beginOrder_10 rfl (by first | assumption | (unfold r32; omega)) ⟨by omega, by omega⟩ (fun c10 => ?_) (fun c10 => ?_)
    · exact wp_ret dX1_beginOrder_85 rfl (False.elim (by omega))
    · refine wp_iload_n dX1_beginOrder_13 rfl ?_
      refine wp_iload_n dX1_beginOrder_14 rfl ?_
      refine wp_ishr (z := x / pw c) dX1_beginOrder_15 (sr_x hx (by omega)).1 ?_
      refine wp_iconst dX1_beginOrder_16 ?_
      refine wp_iand (z := clF x c) dX1_beginOrder_17 (s1_x hx (by omega)) ?_
      refine wp_iconst dX1_beginOrder_18 ?_
      refine wp_icmp_ne 31 dX1_beginOrder_19 rfl (by first | assumption | (unfold r32; omega)) ⟨by omega, by omega⟩ (fun c19 => ?_) (fun c19 => ?_)
      · refine wp_iconst dX1_beginOrder_31 ?_
        refine wp_istore (L' := [some (vR 9), some (vR 16), some (vI x), some (vI c), some (vI 0), y5]) dX1_beginOrder_32 (by decide) rfl ?_
        refine wp_iconst dX1_beginOrder_34 ?_
        refine wp_istore (L' := [some (vR 9), some (vR 16), some (vI x), some (vI c), some (vI 0), some (vI 0)]) dX1_beginOrder_35 (by decide) rfl ?_
        rw [if_neg (by omega)] at hQ q4
        refine lp_bi (k := 0) h9 h10 hP (by omega) 0 0 n o (by omega) (by omega) (by omega) (by have := aoL_b (cl := clF x) hs m (c + 1) n (by omega) (by omega); omega) (fun i' => ?_)
        refine wp_iinc (L' := [some (vR 9), some (vR 16), some (vI x), some (vI (c + 1)), some (vI 0), some (vI i')]) dX1_beginOrder_79 rfl rfl ?_
        refine wp_goto 7 dX1_beginOrder_82 rfl ?_
        exact ih (c + 1) n o _ _ (by omega) (by omega) (by omega) q4 hQ
      · refine wp_aload_n dX1_beginOrder_22 rfl ?_
        refine wp_iload_n dX1_beginOrder_23 rfl ?_
        refine wp_aav (j' := (pl c)) dX1_beginOrder_24 (gs_ne (by decide) (gs_ne (by decide) hP.1)) (by decide) (by omega) (plF_at (by omega)) ?_
        refine wp_getf dX1_beginOrder_25 fX1_89 (gs_ne (by omega) (gs_ne (by omega) (hP.2.1 c (by omega)).2.1)) rfl ?_
        refine wp_goto 32 dX1_beginOrder_28 rfl ?_
        refine wp_istore (L' := [some (vR 9), some (vR 16), some (vI x), some (vI c), some (vI (sz c)), y5]) dX1_beginOrder_32 (by decide) rfl ?_
        refine wp_iconst dX1_beginOrder_34 ?_
        refine wp_istore (L' := [some (vR 9), some (vR 16), some (vI x), some (vI c), some (vI (sz c)), some (vI 0)]) dX1_beginOrder_35 (by decide) rfl ?_
        rw [if_pos (by omega)] at hQ q4
        have ab := aoL_b (cl := clF x) hs m (c + 1) (n + sz c) (by omega) (by omega)
        have l1 := boI_1 (c := c) (sz c).toNat n o
        refine lp_bi h9 h10 hP (by omega) (sz c).toNat 0 n o (by omega) (by omega) (by omega) (by omega) (fun i' => ?_)
        refine wp_iinc (L' := [some (vR 9), some (vR 16), some (vI x), some (vI (c + 1)), some (vI (sz c)), some (vI i')]) dX1_beginOrder_79 rfl rfl ?_
        refine wp_goto 7 dX1_beginOrder_82 rfl ?_
        exact ih (c + 1) _ _ _ _ (by omega) (by omega) (by omega) (by rw [l1, show n + ((sz c).toNat : Int) = n + sz c by omega]; exact q4) hQ
theorem C_beginOrder (h9 : h[9]? = some (oO 1 (oF n t0 s0 l0 m0))) (h10 : h[10]? = some (oI 8 o)) (hP : PL h pl K Fs S sz) (hs : ∀ c, 0 ≤ c ∧ c < 6 → 0 ≤ sz c ∧ sz c ≤ 5) (hx : 0 ≤ x ∧ x < 64) (ha : aoL (clF x) sz 6 0 0 ≤ 8) (hQ : Q none ((h.set 9 (oO 1 (oF (boL (clF x) sz 6 0 0 o).1 t0 s0 l0 m0))).set 10 (oI 8 (boL (clF x) sz 6 0 0 o).2))) : Cl X kX1_beginOrder [vR 9, vR 16, vI x] h Q := by
  refine cl_of rfl (Nat.le_of_ble_eq_true rfl) rfl ?_
  refine wp_aload_n dX1_beginOrder_0 rfl ?_
  refine wp_iconst dX1_beginOrder_1 ?_
  refine wp_putv (fs' := oF 0 t0 s0 l0 m0) dX1_beginOrder_2 (pX1_68 rfl) h9 (Nat.le_of_ble_eq_true rfl) (fitF_int _) rfl ?_
  refine wp_iconst dX1_beginOrder_5 ?_
  refine wp_istore_n (L' := [some (vR 9), some (vR 16), some (vI x), some (vI 0), none, none]) dX1_beginOrder_6 (by decide) rfl ?_
  have e10 : (h.set 9 (oO 1 (oF 0 t0 s0 l0 m0))).set 10 (oI 8 o) = h.set 9 (oO 1 (oF 0 t0 s0 l0 m0)) := set_same (gs_ne (by decide) h10)
  rw [← e10]
  exact lp_bo h9 h10 hP hs hx 6 0 0 o _ _ (by omega) (by omega) (by omega) ha hQ
end FO_
