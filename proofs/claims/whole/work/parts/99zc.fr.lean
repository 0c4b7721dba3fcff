/-! the first order, the reference -/
def ccL (cl : Int → Int) : Nat → Int → Int → Int
  | 0, _, n => n
  | m + 1, c, n => ccL cl m (c + 1) (n + cl c)
section FR_
variable {X : XS} {h : AH} {Q : Option AV → AH → Prop} {cl sz o PS P : Int → Int} {n x dn km ln at_ ft ac mn om fw mo un ik : Int} {c60 : AC} {b : Nat × Nat}
theorem cc_cnt : ccL (clF x) 6 0 0 = cnt (clF x) := by
  have z := fun j (h : 6 ≤ j) => (clF_wb (x := x)).z h
  show 0 + clF x 0 + clF x 1 + clF x 2 + clF x 3 + clF x 4 + clF x 5 = _
  unfold cnt
  rw [z 6 (by omega), z 7 (by omega), z 8 (by omega), z 9 (by omega)]
  omega
theorem ccL_b : ∀ (m : Nat) (c n : Int), n ≤ ccL (clF x) m c n ∧ ccL (clF x) m c n ≤ n + m := by
  intro m
  induction m with
  | zero => intro c n; exact ⟨Int.le_refl _, by show n ≤ n + ((0 : Nat) : Int); omega⟩
  | succ m ih =>
    intro c n
    have := ih (c + 1) (n + clF x c)
    have c01 := clF_wb (x := x) c
    unfold ccL
    omega
set_option maxHeartbeats 1000000 in
theorem lp_ra (m51 : h[51]? = some (oO 7 (mF dn km ln at_ ft ac mn om fw mo un ik))) (m57 : h[57]? = some (oI 6 PS)) (hs : ∀ c, 0 ≤ c ∧ c < 6 → 0 ≤ PS c ∧ PS c ≤ 5) (hx : 0 < x ∧ x < 64) (hQ1 : PLAN x PS → aoL (clF x) PS 6 0 0 ≤ 8 → Q (some (vI (aoL (clF x) PS 6 0 0))) h) (hQ2 : PLAN x PS → 8 < aoL (clF x) PS 6 0 0 → Q (some (vI (-5))) h) (hQ0 : ¬ PLAN x PS → Q (some (vI (-1))) h) : ∀ (m : Nat) (c k n : Int), c + m = 6 → 0 ≤ c → 0 ≤ k ∧ k ≤ c → 0 ≤ n ∧ n ≤ 5 * c → ccL (clF x) m c k = cnt (clF x) → aoL (clF x) PS m c n = aoL (clF x) PS 6 0 0 → (∀ d, 0 ≤ d ∧ d < c → clF x d = 1 → PS d ≠ 0) → Wp X kX7_actsOf 21 [some (vR 51), some (vI x), some (vI k), some (vI n), some (vI c)] [] h b Q := by
  intro m
  induction m with
  | zero =>
    intro c k n q1 q2 q3 q4 e1 e2 hz
    have e1 : k = cnt (clF x) := e1
    have e2 : n = aoL (clF x) PS 6 0 0 := e2
    have hp : ∀ d, 0 ≤ d ∧ d < 6 → clF x d = 1 → PS d ≠ 0 := fun d hd => hz d (by omega)
    rw [← e2] at hQ1 hQ2
    unfold PLAN at *
    refine wp_iload dX7_actsOf_21 rfl ?_
    refine wp_bipush dX7_actsOf_23 rfl ?_
    refine wp_icmp_ge 69 dX7_actsOf_25 rfl (by first | assumption | (unfold r32; omega)) ⟨by omega, by omega⟩ (fun c25 => ?_) (fun c25 => ?_)
    · refine wp_iload_n dX7_actsOf_69 rfl ?_
      refine wp_iconst dX7_actsOf_70 ?_
      refine wp_icmp_le 78 dX7_actsOf_71 rfl (by first | assumption | (unfold r32; omega)) ⟨by omega, by omega⟩ (fun c71 => ?_) (fun c71 => ?_)
      · refine wp_iload_n dX7_actsOf_78 rfl ?_
        refine wp_bipush dX7_actsOf_79 rfl ?_
        refine wp_icmp_le 89 dX7_actsOf_81 rfl (by first | assumption | (unfold r32; omega)) ⟨by omega, by omega⟩ (fun c81 => ?_) (fun c81 => ?_)
        · refine wp_iload_n dX7_actsOf_89 rfl ?_
          exact wp_iret dX7_actsOf_90 rfl (by first | exact hQ1 ⟨hx, by omega, hp⟩ (by omega) | exact hQ2 ⟨hx, by omega, hp⟩ (by omega) | exact hQ0 (fun q => by omega))
        · refine wp_bipush dX7_actsOf_84 rfl ?_
          refine wp_goto 90 dX7_actsOf_86 rfl ?_
          exact wp_iret dX7_actsOf_90 rfl (by first | exact hQ1 ⟨hx, by omega, hp⟩ (by omega) | exact hQ2 ⟨hx, by omega, hp⟩ (by omega) | exact hQ0 (fun q => by omega))
      · refine wp_iconst dX7_actsOf_74 ?_
        refine wp_goto 90 dX7_actsOf_75 rfl ?_
        exact wp_iret dX7_actsOf_90 rfl (by first | exact hQ1 ⟨hx, by omega, hp⟩ (by omega) | exact hQ2 ⟨hx, by omega, hp⟩ (by omega) | exact hQ0 (fun q => by omega))
    · exfalso; omega
  | succ m ih =>
    intro c k n q1 q2 q3 q4 e1 e2 hz
    have sc := hs c (by omega)
    have c01 := clF_wb (x := x) c
    unfold ccL at e1
    unfold aoL at e2
    refine wp_iload dX7_actsOf_21 rfl ?_
    refine wp_bipush dX7_actsOf_23 rfl ?_
    refine wp_icmp_ge 69 dX7_actsOf_25 rfl (by first | assumption | (unfold r32; omega)) ⟨by omega, by omega⟩ (fun c25 => ?_) (fun c25 => ?_)
    · refine wp_iload_n dX7_actsOf_69 rfl ?_
      refine wp_iconst dX7_actsOf_70 ?_
      refine wp_icmp_le 78 dX7_actsOf_71 rfl (by first | assumption | (unfold r32; omega)) ⟨by omega, by omega⟩ (fun c71 => ?_) (fun c71 => ?_)
      · refine wp_iload_n dX7_actsOf_78 rfl ?_
        refine wp_bipush dX7_actsOf_79 rfl ?_
        refine wp_icmp_le 89 dX7_actsOf_81 rfl (by first | assumption | (unfold r32; omega)) ⟨by omega, by omega⟩ (fun c81 => ?_) (fun c81 => ?_)
        · refine wp_iload_n dX7_actsOf_89 rfl ?_
          exact wp_iret dX7_actsOf_90 rfl (by first | (exfalso; omega) | exact hQ0 (fun q => by have := q.2.2 c (by omega) (by omega); omega))
        · refine wp_bipush dX7_actsOf_84 rfl ?_
          refine wp_goto 90 dX7_actsOf_86 rfl ?_
          exact wp_iret dX7_actsOf_90 rfl (by first | (exfalso; omega) | exact hQ0 (fun q => by have := q.2.2 c (by omega) (by omega); omega))
      · refine wp_iconst dX7_actsOf_74 ?_
        refine wp_goto 90 dX7_actsOf_75 rfl ?_
        exact wp_iret dX7_actsOf_90 rfl (by first | (exfalso; omega) | exact hQ0 (fun q => by have := q.2.2 c (by omega) (by omega); omega))
    · refine wp_iload_n dX7_actsOf_28 rfl ?_
      refine wp_iload dX7_actsOf_29 rfl ?_
      refine wp_ishr (z := x / pw c) dX7_actsOf_31 (sr_x ⟨by omega, hx.2⟩ (by omega)).1 ?_
      refine wp_iconst dX7_actsOf_32 ?_
      refine wp_iand (z := clF x c) dX7_actsOf_33 (s1_x ⟨by omega, hx.2⟩ (by omega)) ?_
      refine wp_iconst dX7_actsOf_34 ?_
      refine wp_icmp_ne 63 dX7_actsOf_35 rfl (by first | assumption | (unfold r32; omega)) ⟨by omega, by omega⟩ (fun c35 => ?_) (fun c35 => ?_)
      · refine wp_iinc (L' := [some (vR 51), some (vI x), some (vI k), some (vI n), some (vI (c + 1))]) dX7_actsOf_63 rfl rfl ?_
        refine wp_goto 21 dX7_actsOf_66 rfl ?_
        rw [show clF x c = 0 by omega, Int.add_zero] at e1
        rw [if_neg (by omega)] at e2
        exact ih (c + 1) k n (by omega) (by omega) (by omega) (by omega) e1 e2 (fun d hd h1 => by rcases Decidable.em (d = c) with e | e; rw [e] at h1; omega; exact hz d (by omega) h1)
      · refine wp_iinc (L' := [some (vR 51), some (vI x), some (vI (k + 1)), some (vI n), some (vI c)]) dX7_actsOf_38 rfl rfl ?_
        refine wp_iload_n dX7_actsOf_41 rfl ?_
        refine wp_aload_n dX7_actsOf_42 rfl ?_
        refine wp_getf dX7_actsOf_43 fX7_25 m51 rfl ?_
        refine wp_iload dX7_actsOf_46 rfl ?_
        refine wp_iav (v := PS c) dX7_actsOf_48 m57 (by decide) (by omega) rfl ?_
        refine wp_iadd dX7_actsOf_49 ?_
        refine wp_istore_n (L' := [some (vR 51), some (vI x), some (vI (k + 1)), some (vI (n + PS c)), some (vI c)]) dX7_actsOf_50 (by decide) rfl ?_
        refine wp_aload_n dX7_actsOf_51 rfl ?_
        refine wp_getf dX7_actsOf_52 fX7_25 m51 rfl ?_
        refine wp_iload dX7_actsOf_55 rfl ?_
        refine wp_iav (v := PS c) dX7_actsOf_57 m57 (by decide) (by omega) rfl ?_
        refine wp_if_ne 63 dX7_actsOf_58 rfl (by first | assumption | (unfold r32; omega)) (fun c58 => ?_) (fun c58 => ?_)
        · refine wp_iinc (L' := [some (vR 51), some (vI x), some (vI (k + 1)), some (vI (n + PS c)), some (vI (c + 1))]) dX7_actsOf_63 rfl rfl ?_
          refine wp_goto 21 dX7_actsOf_66 rfl ?_
          rw [show clF x c = 1 by omega] at e1
          rw [if_pos (by omega)] at e2
          exact ih (c + 1) _ _ (by omega) (by omega) (by omega) (by omega) e1 e2 (fun d hd h1 => by rcases Decidable.em (d = c) with e | e; rw [e]; omega; exact hz d (by omega) h1)
        · refine wp_iconst dX7_actsOf_61 ?_
          exact wp_iret dX7_actsOf_62 rfl (by first | (exfalso; omega) | exact hQ0 (fun q => by have := q.2.2 c (by omega) (by omega); omega))
theorem C_ractsOf (m51 : h[51]? = some (oO 7 (mF dn km ln at_ ft ac mn om fw mo un ik))) (m57 : h[57]? = some (oI 6 PS)) (hs : ∀ c, 0 ≤ c ∧ c < 6 → 0 ≤ PS c ∧ PS c ≤ 5) (rx : r32 x) (hQ1 : PLAN x PS → aoL (clF x) PS 6 0 0 ≤ 8 → Q (some (vI (aoL (clF x) PS 6 0 0))) h) (hQ2 : PLAN x PS → 8 < aoL (clF x) PS 6 0 0 → Q (some (vI (-5))) h) (hQ0 : ¬ PLAN x PS → Q (some (vI (-1))) h) : Cl X kX7_actsOf [vR 51, vI x] h Q := by
  refine cl_of rfl (Nat.le_of_ble_eq_true rfl) rfl ?_
  refine wp_iload_n dX7_actsOf_0 rfl ?_
  refine wp_i2l dX7_actsOf_1 (by first | assumption | exact hR _ | exact bI_r _ | (unfold r32; omega)) ?_
  refine wp_lconst (z := 1) dX7_actsOf_2 rfl ?_
  refine wp_ldc2 dX7_actsOf_3 cX7_255 ?_
  refine wp_is3 dX7_actsOf_6 SX7_in lX7_94 (rq0 rfl rfl) (Nat.le_of_ble_eq_true rfl) (C_in (by first | assumption | exact r64_of (hR _) | (unfold r64 r32 at *; omega)) (by first | assumption | exact r64_of (hR _) | (unfold r64 r32 at *; omega)) (by first | assumption | exact r64_of (hR _) | (unfold r64 r32 at *; omega)) ?_)
  dsimp only [pushR]
  refine wp_bne 14 dX7_actsOf_9 rfl (fun c9 => ?_) (fun c9 => ?_)
  · refine wp_iconst dX7_actsOf_14 ?_
    refine wp_istore_n (L' := [some (vR 51), some (vI x), some (vI 0), none, none]) dX7_actsOf_15 (by decide) rfl ?_
    refine wp_iconst dX7_actsOf_16 ?_
    refine wp_istore_n (L' := [some (vR 51), some (vI x), some (vI 0), some (vI 0), none]) dX7_actsOf_17 (by decide) rfl ?_
    refine wp_iconst dX7_actsOf_18 ?_
    refine wp_istore (L' := [some (vR 51), some (vI x), some (vI 0), some (vI 0), some (vI 0)]) dX7_actsOf_19 (by decide) rfl ?_
    exact lp_ra m51 m57 hs (by omega) hQ1 hQ2 hQ0 6 0 0 0 (by omega) (by omega) (by omega) (by omega) cc_cnt rfl (fun d hd => by omega)
  · refine wp_iconst dX7_actsOf_12 ?_
    exact wp_iret dX7_actsOf_13 rfl (hQ0 (fun q => by have := q.1; omega))
set_option maxHeartbeats 1000000 in
theorem lp_rfi {c : Int} (m51 : h[51]? = some (oO 7 (mF dn km ln at_ ft ac mn om fw mo un ik))) (m57 : h[57]? = some (oI 6 PS)) (m60 : h[60]? = some c60) (hs : ∀ c, 0 ≤ c ∧ c < 6 → 0 ≤ PS c ∧ PS c ≤ 5) (hx : 0 ≤ x ∧ x < 64) (hc : 0 ≤ c ∧ c < 6) (h1 : clF x c = 1) : ∀ (m : Nat) (i n : Int) (o : Int → Int), i + m = PS c → 0 ≤ i → 0 ≤ n → n + m ≤ 8 → (∀ i', Wp X kX7_firstOrder 49 [some (vR 51), some (vI x), some (vI (boI c m n o).1), some (vI c), some (vI i')] [] (h.set 60 (oI 8 (boI c m n o).2)) b Q) → Wp X kX7_firstOrder 13 [some (vR 51), some (vI x), some (vI n), some (vI c), some (vI i)] [] (h.set 60 (oI 8 o)) b Q := by
  have sc := hs c (by omega)
  have hR : r32 (PS c) := by unfold r32; omega
  intro m
  induction m with
  | zero =>
    intro i n o q1 q2 q3 q4 hQ
    refine wp_iload_n dX7_firstOrder_13 rfl ?_
    refine wp_iload_n dX7_firstOrder_14 rfl ?_
    refine wp_ishr (z := x / pw c) dX7_firstOrder_15 (sr_x hx (by omega)).1 ?_
    refine wp_iconst dX7_firstOrder_16 ?_
    refine wp_iand (z := clF x c) dX7_firstOrder_17 (s1_x hx (by omega)) ?_
    refine wp_iconst dX7_firstOrder_18 ?_
    refine wp_icmp_ne 49 dX7_firstOrder_19 rfl (by first | assumption | (unfold r32; omega)) ⟨by omega, by omega⟩ (fun c19 => ?_) (fun c19 => ?_)
    · first | (exfalso; omega) | exact hQ _
    · refine wp_iload dX7_firstOrder_22 rfl ?_
      refine wp_aload_n dX7_firstOrder_24 rfl ?_
      refine wp_getf dX7_firstOrder_25 fX7_25 (gs_ne (by decide) m51) rfl ?_
      refine wp_iload_n dX7_firstOrder_28 rfl ?_
      refine wp_iav (v := PS c) dX7_firstOrder_29 (gs_ne (by decide) m57) (by decide) (by omega) rfl ?_
      refine wp_icmp_ge 49 dX7_firstOrder_30 rfl (by first | assumption | (unfold r32; omega)) (by first | assumption | (unfold r32; omega)) (fun c30 => ?_) (fun c30 => ?_)
      · first | (exfalso; omega) | exact hQ _
      · exfalso; omega
  | succ m ih =>
    intro i n o q1 q2 q3 q4 hQ
    unfold boI at hQ
    refine wp_iload_n dX7_firstOrder_13 rfl ?_
    refine wp_iload_n dX7_firstOrder_14 rfl ?_
    refine wp_ishr (z := x / pw c) dX7_firstOrder_15 (sr_x hx (by omega)).1 ?_
    refine wp_iconst dX7_firstOrder_16 ?_
    refine wp_iand (z := clF x c) dX7_firstOrder_17 (s1_x hx (by omega)) ?_
    refine wp_iconst dX7_firstOrder_18 ?_
    refine wp_icmp_ne 49 dX7_firstOrder_19 rfl (by first | assumption | (unfold r32; omega)) ⟨by omega, by omega⟩ (fun c19 => ?_) (fun c19 => ?_)
    · exfalso; omega
    · refine wp_iload dX7_firstOrder_22 rfl ?_
      refine wp_aload_n dX7_firstOrder_24 rfl ?_
      refine wp_getf dX7_firstOrder_25 fX7_25 (gs_ne (by decide) m51) rfl ?_
      refine wp_iload_n dX7_firstOrder_28 rfl ?_
      refine wp_iav (v := PS c) dX7_firstOrder_29 (gs_ne (by decide) m57) (by decide) (by omega) rfl ?_
      refine wp_icmp_ge 49 dX7_firstOrder_30 rfl (by first | assumption | (unfold r32; omega)) (by first | assumption | (unfold r32; omega)) (fun c30 => ?_) (fun c30 => ?_)
      · exfalso; omega
      · refine wp_aload_n dX7_firstOrder_33 rfl ?_
        refine wp_getf dX7_firstOrder_34 fX7_51 (gs_ne (by decide) m51) rfl ?_
        refine wp_iload_n dX7_firstOrder_37 rfl ?_
        refine wp_iload_n dX7_firstOrder_38 rfl ?_
        refine wp_isv dX7_firstOrder_39 (gs_eq (gs_lt m60)) (by decide) (by omega) ?_
        refine wp_iinc (L' := [some (vR 51), some (vI x), some (vI (n + 1)), some (vI c), some (vI i)]) dX7_firstOrder_40 rfl rfl ?_
        refine wp_iinc (L' := [some (vR 51), some (vI x), some (vI (n + 1)), some (vI c), some (vI (i + 1))]) dX7_firstOrder_43 rfl rfl ?_
        refine wp_goto 13 dX7_firstOrder_46 rfl ?_
        rw [List.set_set]
        exact ih (i + 1) (n + 1) _ (by omega) (by omega) (by omega) (by omega) hQ
set_option maxHeartbeats 1000000 in
theorem lp_rfo (m51 : h[51]? = some (oO 7 (mF dn km ln at_ ft ac mn om fw mo un ik))) (m57 : h[57]? = some (oI 6 PS)) (m60 : h[60]? = some c60) (hs : ∀ c, 0 ≤ c ∧ c < 6 → 0 ≤ PS c ∧ PS c ≤ 5) (hx : 0 ≤ x ∧ x < 64) : ∀ (m : Nat) (c n : Int) (o : Int → Int) (y4 : Option AV), c + m = 6 → 0 ≤ c → 0 ≤ n → aoL (clF x) PS m c n ≤ 8 → Q none (h.set 60 (oI 8 (boL (clF x) PS m c n o).2)) → Wp X kX7_firstOrder 4 [some (vR 51), some (vI x), some (vI n), some (vI c), y4] [] (h.set 60 (oI 8 o)) b Q := by
  intro m
  induction m with
  | zero =>
    intro c n o y4 q1 q2 q3 q4 hQ
    refine wp_iload_n dX7_firstOrder_4 rfl ?_
    refine wp_bipush dX7_firstOrder_5 rfl ?_
    refine wp_icmp_ge 55 dX7_firstOrder_7 rfl (by first | assumption | (unfold r32; omega)) ⟨by omega, by omega⟩ (fun c7 => ?_) (fun c7 => ?_)
    · exact wp_ret dX7_firstOrder_55 rfl hQ
    · exfalso; omega
  | succ m ih =>
    intro c n o y4 q1 q2 q3 q4 hQ
    have sc := hs c (by omega)
    have hc : 0 ≤ c ∧ c < 6 := by omega
    have c01 := clF_wb (x := x) c
    unfold boL at hQ
    unfold aoL at q4
    rcases Decidable.em (clF x c = 1) with h1 | h1
    · rw [if_pos h1] at hQ q4
      have ab := aoL_b (cl := clF x) hs m (c + 1) (n + PS c) (by omega) (by omega)
      have l1 := boI_1 (c := c) (PS c).toNat n o
      refine wp_iload_n dX7_firstOrder_4 rfl ?_
      refine wp_bipush dX7_firstOrder_5 rfl ?_
      refine wp_icmp_ge 55 dX7_firstOrder_7 rfl (by first | assumption | (unfold r32; omega)) ⟨by omega, by omega⟩ (fun c7 => ?_) (fun c7 => ?_)
      · exact wp_ret dX7_firstOrder_55 rfl (False.elim (by omega))
      · refine wp_iconst dX7_firstOrder_10 ?_
        refine wp_istore (L' := [some (vR 51), some (vI x), some (vI n), some (vI c), some (vI 0)]) dX7_firstOrder_11 (by decide) rfl ?_
        refine lp_rfi m51 m57 m60 hs hx hc h1 (PS c).toNat 0 n o (by omega) (by omega) (by omega) (by omega) (fun i' => ?_)
        refine wp_iinc (L' := [some (vR 51), some (vI x), some (vI ((boI c (PS c).toNat n o).1)), some (vI (c + 1)), some (vI i')]) dX7_firstOrder_49 rfl rfl ?_
        refine wp_goto 4 dX7_firstOrder_52 rfl ?_
        exact ih (c + 1) _ _ _ (by omega) (by omega) (by omega) (by rw [l1, show n + ((PS c).toNat : Int) = n + PS c by omega]; exact q4) hQ
    · rw [if_neg h1] at hQ q4
      refine wp_iload_n dX7_firstOrder_4 rfl ?_
      refine wp_bipush dX7_firstOrder_5 rfl ?_
      refine wp_icmp_ge 55 dX7_firstOrder_7 rfl (by first | assumption | (unfold r32; omega)) ⟨by omega, by omega⟩ (fun c7 => ?_) (fun c7 => ?_)
      · exact wp_ret dX7_firstOrder_55 rfl (False.elim (by omega))
      · refine wp_iconst dX7_firstOrder_10 ?_
        refine wp_istore (L' := [some (vR 51), some (vI x), some (vI n), some (vI c), some (vI 0)]) dX7_firstOrder_11 (by decide) rfl ?_
        refine wp_iload_n dX7_firstOrder_13 rfl ?_
        refine wp_iload_n dX7_firstOrder_14 rfl ?_
        refine wp_ishr (z := x / pw c) dX7_firstOrder_15 (sr_x hx (by omega)).1 ?_
        refine wp_iconst dX7_firstOrder_16 ?_
        refine wp_iand (z := clF x c) dX7_firstOrder_17 (s1_x hx (by omega)) ?_
        refine wp_iconst dX7_firstOrder_18 ?_
        refine wp_icmp_ne 49 dX7_firstOrder_19 rfl (by first | assumption | (unfold r32; omega)) ⟨by omega, by omega⟩ (fun c19 => ?_) (fun c19 => ?_)
        · refine wp_iinc (L' := [some (vR 51), some (vI x), some (vI n), some (vI (c + 1)), some (vI 0)]) dX7_firstOrder_49 rfl rfl ?_
          refine wp_goto 4 dX7_firstOrder_52 rfl ?_
          exact ih (c + 1) n o _ (by omega) (by omega) (by omega) q4 hQ
        · exfalso; omega
theorem C_rfirst (m51 : h[51]? = some (oO 7 (mF dn km ln at_ ft ac mn om fw mo un ik))) (m57 : h[57]? = some (oI 6 PS)) (m60 : h[60]? = some (oI 8 o)) (hs : ∀ c, 0 ≤ c ∧ c < 6 → 0 ≤ PS c ∧ PS c ≤ 5) (hx : 0 ≤ x ∧ x < 64) (ha : aoL (clF x) PS 6 0 0 ≤ 8) (hQ : Q none (h.set 60 (oI 8 (boL (clF x) PS 6 0 0 o).2))) : Cl X kX7_firstOrder [vR 51, vI x] h Q := by
  refine cl_of rfl (Nat.le_of_ble_eq_true rfl) rfl ?_
  refine wp_iconst dX7_firstOrder_0 ?_
  refine wp_istore_n (L' := [some (vR 51), some (vI x), some (vI 0), none, none]) dX7_firstOrder_1 (by decide) rfl ?_
  refine wp_iconst dX7_firstOrder_2 ?_
  refine wp_istore_n (L' := [some (vR 51), some (vI x), some (vI 0), some (vI 0), none]) dX7_firstOrder_3 (by decide) rfl ?_
  rw [← set_same m60]
  exact lp_rfo m51 m57 m60 hs hx 6 0 0 o _ (by omega) (by omega) (by omega) ha hQ
end FR_
