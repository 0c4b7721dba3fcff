/-! orders and witness, the class -/
/-- what the orders leave of the class' heap -/
def FRO (h h' : AH) : Prop := h'.length = h.length ∧ (∀ i, i ≠ 4 → (i < 9 ∨ 14 ≤ i) → h'[i]? = h[i]?) ∧ (∃ n t s l m, h'[9]? = some (oO 1 (oF n t s l m))) ∧ (∃ o, h'[10]? = some (oI 8 o)) ∧ (∃ o, h'[11]? = some (oI 8 o)) ∧ (∃ o, h'[12]? = some (oI 6 o)) ∧ (∃ o, h'[13]? = some (oL 16 o)) ∧ ∃ tf, SmZ tf ∧ h'[4]? = some (oI 1060 tf)
def oPick (R : Int × Int × Int × Int × Int × (Int → Int)) (i : Int) : Int := if i = 0 then R.1 else if i = 1 then R.2.1 else if i = 2 then R.2.2.1 else if i = 3 then R.2.2.2.1 else R.2.2.2.2.1
def oWit (R : Int × Int × Int × Int × Int × (Int → Int)) (n k : Int) : Int := if 0 < R.2.1 ∧ k < n then R.2.2.2.2.2 k else -2
section OC_
variable {X : XS} {h h0 : AH} {Q : Option AV → AH → Prop} {K Fs S : Int → Int → Int} {sz P PS o0 o fs0 fs pi0 fb0 fb fv cl f g tf : Int → Int} {n t s l m n0 t0 s0 l0 m0 B x key un i k : Int} {pl : Int → Nat} {b : Nat × Nat} {sp kp : AV}
theorem smL_0 (hz : ∀ q, 0 ≤ q ∧ q < 16 → fb q = 0) : ∀ (m : Nat) (q n : Int), q + m = 16 → 0 ≤ q → smL fb m q n = n := by
  intro m
  induction m with
  | zero => intro q n _ _; rfl
  | succ m ih =>
    intro q n h1 h2
    have e : pcS (0 : Int).toNat 64 = 0 := by decide
    unfold smL
    rw [hz q (by omega), e, Int.add_zero]
    exact ih (q + 1) n (by omega) (by omega)
theorem FBr.z (hz : ∀ q, 0 ≤ q ∧ q < 16 → fb q = 0) : FBr fb z0 0 := ⟨fun q hq => by rw [hz q hq]; omega, fun v _ => Or.inl rfl, fun v hv => by
  rw [hz (v / 64) (by omega)]
  have e : (0 : Int).toNat = 0 := rfl
  rw [e, Nat.zero_testBit]
  unfold z0
  constructor
  · intro q; exact absurd q (by decide)
  · intro q; omega, (smL_0 hz 16 0 0 (by omega) (by omega)).symm⟩
theorem C_bcl {z : Int} (hz : 0 ≤ z ∧ z < 18446744073709551616) (hQ : Q (some (vI (pcS z.toNat 64))) h) : Cl X kJ13_bitCount_95d88 [vL z] h Q := by
  have e : ((z.toNat : Nat) : Int) = z := by omega
  have c := C_bitCountL (X := X) (N := z.toNat) (by omega) hQ
  rw [e] at c
  exact c
theorem pcS_b (N : Nat) : ∀ m : Nat, 0 ≤ pcS N m ∧ pcS N m ≤ m := by
  intro m
  induction m with
  | zero => exact ⟨Int.le_refl _, Int.le_refl _⟩
  | succ m ih => unfold pcS; split <;> omega
set_option maxHeartbeats 1000000 in
theorem lp_vf (h9 : h[9]? = some (oO 1 (oF n t s l m))) (h13 : h[13]? = some (oL 16 fb)) (hb : B64 fb) : ∀ (mm : Nat) (q v : Int), q + mm = 16 → 0 ≤ q → Q (some (vI (smL fb mm q v))) h → Wp X kX1_valuesFound 4 [some (vR 9), some (vI v), some (vI q)] [] h b Q := by
  intro mm
  induction mm with
  | zero =>
    intro q v q1 q2 hQ
    refine wp_iload_n dX1_valuesFound_4 rfl ?_
    refine wp_aload_n dX1_valuesFound_5 rfl ?_
    refine wp_getf dX1_valuesFound_6 fX1_21 h9 rfl ?_
    refine wp_alen dX1_valuesFound_9 h13 rfl ?_
    refine wp_icmp_ge 31 dX1_valuesFound_10 rfl (by first | assumption | (unfold r32; omega)) (by first | assumption | (unfold r32; omega)) (fun c10 => ?_) (fun c10 => ?_)
    · refine wp_iload_n dX1_valuesFound_31 rfl ?_
      exact wp_iret dX1_valuesFound_32 rfl hQ
    · exfalso; omega
  | succ mm ih =>
    intro q v q1 q2 hQ
    have bq := hb q (by omega)
    unfold smL at hQ
    refine wp_iload_n dX1_valuesFound_4 rfl ?_
    refine wp_aload_n dX1_valuesFound_5 rfl ?_
    refine wp_getf dX1_valuesFound_6 fX1_21 h9 rfl ?_
    refine wp_alen dX1_valuesFound_9 h13 rfl ?_
    refine wp_icmp_ge 31 dX1_valuesFound_10 rfl (by first | assumption | (unfold r32; omega)) (by first | assumption | (unfold r32; omega)) (fun c10 => ?_) (fun c10 => ?_)
    · refine wp_iload_n dX1_valuesFound_31 rfl ?_
      exact wp_iret dX1_valuesFound_32 rfl (False.elim (by omega))
    · refine wp_iload_n dX1_valuesFound_13 rfl ?_
      refine wp_aload_n dX1_valuesFound_14 rfl ?_
      refine wp_getf dX1_valuesFound_15 fX1_21 h9 rfl ?_
      refine wp_iload_n dX1_valuesFound_18 rfl ?_
      refine wp_lav (v := fb q) dX1_valuesFound_19 h13 (by decide) (by omega) rfl ?_
      refine wp_is1 dX1_valuesFound_20 SJ13_bitCount_95d88 lX1_124 (rq0 rfl rfl) (Nat.le_of_ble_eq_true rfl) (C_bcl bq ?_)
      dsimp only [pushR]
      refine wp_iadd dX1_valuesFound_23 ?_
      refine wp_istore_n (L' := [some (vR 9), some (vI (v + (pcS (fb q).toNat 64))), some (vI q)]) dX1_valuesFound_24 (by decide) rfl ?_
      refine wp_iinc (L' := [some (vR 9), some (vI (v + (pcS (fb q).toNat 64))), some (vI (q + 1))]) dX1_valuesFound_25 rfl rfl ?_
      refine wp_goto 4 dX1_valuesFound_28 rfl ?_
      exact ih (q + 1) _ (by omega) (by omega) hQ
theorem C_valuesFound (h9 : h[9]? = some (oO 1 (oF n t s l m))) (h13 : h[13]? = some (oL 16 fb)) (hb : B64 fb) (hQ : Q (some (vI (smL fb 16 0 0))) h) : Cl X kX1_valuesFound [vR 9] h Q := by
  refine cl_of rfl (Nat.le_of_ble_eq_true rfl) rfl ?_
  refine wp_iconst dX1_valuesFound_0 ?_
  refine wp_istore_n (L' := [some (vR 9), some (vI 0), none]) dX1_valuesFound_1 (by decide) rfl ?_
  refine wp_iconst dX1_valuesFound_2 ?_
  refine wp_istore_n (L' := [some (vR 9), some (vI 0), some (vI 0)]) dX1_valuesFound_3 (by decide) rfl ?_
  exact lp_vf h9 h13 hb 16 0 0 (by omega) (by omega) hQ
theorem C_oout (h9 : h[9]? = some (oO 1 (oF n t s l m))) (h13 : h[13]? = some (oL 16 fb)) (hb : B64 fb) (hu : un = smL fb 16 0 0) (ri : r32 i) (hQ : Q (some (vI (oPick (t, s, l, m, un, fs) i))) h) : Cl X kX1_outcome [vR 9, vI i] h Q := by
  refine cl_of rfl (Nat.le_of_ble_eq_true rfl) rfl ?_
  unfold oPick at hQ
  dsimp only at hQ
  refine wp_iload_n dX1_outcome_0 rfl ?_
  rcases Decidable.em (i = 0) with e1_0 | e1_0
  · refine wp_tableIn (off := 31) 32 dX1_outcome_1 (by first | assumption | (unfold r32; omega)) (by omega) (by omega) (by rw [e1_0]; rfl) rfl ?_
    refine wp_aload_n dX1_outcome_32 rfl ?_
    refine wp_getf dX1_outcome_33 fX1_29 h9 rfl ?_
    exact wp_iret dX1_outcome_36 rfl (by (repeat' split at hQ) <;> first | (exfalso; omega) | exact hQ)
  rcases Decidable.em (i = 1) with e1_1 | e1_1
  · refine wp_tableIn (off := 36) 37 dX1_outcome_1 (by first | assumption | (unfold r32; omega)) (by omega) (by omega) (by rw [e1_1]; rfl) rfl ?_
    refine wp_aload_n dX1_outcome_37 rfl ?_
    refine wp_getf dX1_outcome_38 fX1_33 h9 rfl ?_
    exact wp_iret dX1_outcome_41 rfl (by (repeat' split at hQ) <;> first | (exfalso; omega) | exact hQ)
  rcases Decidable.em (i = 2) with e1_2 | e1_2
  · refine wp_tableIn (off := 41) 42 dX1_outcome_1 (by first | assumption | (unfold r32; omega)) (by omega) (by omega) (by rw [e1_2]; rfl) rfl ?_
    refine wp_aload_n dX1_outcome_42 rfl ?_
    refine wp_getf dX1_outcome_43 fX1_39 h9 rfl ?_
    exact wp_iret dX1_outcome_46 rfl (by (repeat' split at hQ) <;> first | (exfalso; omega) | exact hQ)
  rcases Decidable.em (i = 3) with e1_3 | e1_3
  · refine wp_tableIn (off := 46) 47 dX1_outcome_1 (by first | assumption | (unfold r32; omega)) (by omega) (by omega) (by rw [e1_3]; rfl) rfl ?_
    refine wp_aload_n dX1_outcome_47 rfl ?_
    refine wp_getf dX1_outcome_48 fX1_42 h9 rfl ?_
    exact wp_iret dX1_outcome_51 rfl (by (repeat' split at hQ) <;> first | (exfalso; omega) | exact hQ)
  refine wp_tableOut 52 dX1_outcome_1 (by first | assumption | (unfold r32; omega)) (by omega) rfl ?_
  refine wp_aload_n dX1_outcome_52 rfl ?_
  refine wp_iv0 dX1_outcome_53 VX1_valuesFound lX1_121 h9 (rq0 rfl rfl) (Nat.le_of_ble_eq_true rfl) (C_valuesFound h9 h13 hb ?_)
  dsimp only [pushR]
  rw [← hu]
  exact wp_iret dX1_outcome_56 rfl (by (repeat' split at hQ) <;> first | (exfalso; omega) | exact hQ)
theorem C_witAt (h9 : h[9]? = some (oO 1 (oF n t s l m))) (h11 : h[11]? = some (oI 8 fs)) (hn : 0 ≤ n ∧ n ≤ 8) (rk : r32 k) (hk : 0 ≤ k) (rs : r32 s) (hQ : Q (some (vI (if 0 < s ∧ k < n then fs k else -2))) h) : Cl X kX1_witnessAt [vR 9, vI k] h Q := by
  refine cl_of rfl (Nat.le_of_ble_eq_true rfl) rfl ?_
  refine wp_aload_n dX1_witnessAt_0 rfl ?_
  refine wp_getf dX1_witnessAt_1 fX1_33 h9 rfl ?_
  refine wp_if_le 24 dX1_witnessAt_4 rfl (by first | assumption | (unfold r32; omega)) (fun c4 => ?_) (fun c4 => ?_)
  · refine wp_bipush dX1_witnessAt_24 rfl ?_
    exact wp_iret dX1_witnessAt_26 rfl (by (repeat' split at hQ) <;> first | (exfalso; omega) | exact hQ)
  · refine wp_iload_n dX1_witnessAt_7 rfl ?_
    refine wp_aload_n dX1_witnessAt_8 rfl ?_
    refine wp_getf dX1_witnessAt_9 fX1_68 h9 rfl ?_
    refine wp_icmp_ge 24 dX1_witnessAt_12 rfl (by first | assumption | (unfold r32; omega)) (by first | assumption | (unfold r32; omega)) (fun c12 => ?_) (fun c12 => ?_)
    · refine wp_bipush dX1_witnessAt_24 rfl ?_
      exact wp_iret dX1_witnessAt_26 rfl (by (repeat' split at hQ) <;> first | (exfalso; omega) | exact hQ)
    · refine wp_aload_n dX1_witnessAt_15 rfl ?_
      refine wp_getf dX1_witnessAt_16 fX1_15 h9 rfl ?_
      refine wp_iload_n dX1_witnessAt_19 rfl ?_
      refine wp_iav (v := fs k) dX1_witnessAt_20 h11 (by decide) (by omega) rfl ?_
      refine wp_goto 26 dX1_witnessAt_21 rfl ?_
      exact wp_iret dX1_witnessAt_26 rfl (by (repeat' split at hQ) <;> first | (exfalso; omega) | exact hQ)
theorem PL.fr {h' : AH} (hP : PL h pl K Fs S sz) (hf : ∀ i, 16 ≤ i → i < 45 → h'[i]? = h[i]?) : PL h' pl K Fs S sz := by
  obtain ⟨p16, pc, pd⟩ := hP
  refine ⟨(hf 16 (by decide) (by decide)).trans p16, fun i hi => ?_, pd⟩
  have p := pc i hi
  exact ⟨p.1, (hf _ (by omega) (by omega)).trans p.2.1, (hf _ (by omega) (by omega)).trans p.2.2.1, (hf _ (by omega) (by omega)).trans p.2.2.2.1, (hf _ (by omega) (by omega)).trans p.2.2.2.2⟩
set_option maxHeartbeats 4000000 in
theorem C_goThrough (h1 : h[1]? = some (oO 5 [vR 2])) (h2 : h[2]? = some (oI 1060 f)) (h3 : h[3]? = some (oO 5 [vR 4])) (h4 : h[4]? = some (oI 1060 tf)) (h9 : h[9]? = some (oO 1 (oF n0 t0 s0 l0 m0))) (h10 : h[10]? = some (oI 8 o0)) (h11 : h[11]? = some (oI 8 fs0)) (h12 : h[12]? = some (oI 6 pi0)) (h13 : h[13]? = some (oL 16 fb0)) (hzf : SmZ f) (hzt : SmZ tf) (hP : PL h pl K Fs S sz) (hR : PRel K Fs S sz P PS) (hA : AK B f g) (hB : 1000 ≤ B) (hBB : B + 10000 ≤ 8000000) (hk : 0 ≤ key ∧ key < 10) (hp : PLAN x sz) (ha : (aoL (clF x) sz 6 0 0) ≤ 8) (hQ : ∀ h' o' pi' fb' fv' tf', OPL h h' (aoL (clF x) sz 6 0 0) (ordL (cOb K Fs S f key (aoL (clF x) sz 6 0 0)) (aoL (clF x) sz 6 0 0) 6561 (boL (clF x) sz 6 0 0 o0).2 0 0 2147483647 0 0 fs0 z0).1 (ordL (cOb K Fs S f key (aoL (clF x) sz 6 0 0)) (aoL (clF x) sz 6 0 0) 6561 (boL (clF x) sz 6 0 0 o0).2 0 0 2147483647 0 0 fs0 z0).2.1 (ordL (cOb K Fs S f key (aoL (clF x) sz 6 0 0)) (aoL (clF x) sz 6 0 0) 6561 (boL (clF x) sz 6 0 0 o0).2 0 0 2147483647 0 0 fs0 z0).2.2.1 (ordL (cOb K Fs S f key (aoL (clF x) sz 6 0 0)) (aoL (clF x) sz 6 0 0) 6561 (boL (clF x) sz 6 0 0 o0).2 0 0 2147483647 0 0 fs0 z0).2.2.2.1 o' (ordL (cOb K Fs S f key (aoL (clF x) sz 6 0 0)) (aoL (clF x) sz 6 0 0) 6561 (boL (clF x) sz 6 0 0 o0).2 0 0 2147483647 0 0 fs0 z0).2.2.2.2.2 pi' fb' tf' → FBr fb' fv' (ordL (cOb K Fs S f key (aoL (clF x) sz 6 0 0)) (aoL (clF x) sz 6 0 0) 6561 (boL (clF x) sz 6 0 0 o0).2 0 0 2147483647 0 0 fs0 z0).2.2.2.2.1 → SmZ tf' → Q none h') : Cl X kX1_goThrough [vR 9, vR 1, vR 16, vI x, vI key] h Q := by
  refine cl_of rfl (Nat.le_of_ble_eq_true rfl) rfl ?_
  have hs : ∀ c, 0 ≤ c ∧ c < 6 → 0 ≤ sz c ∧ sz c ≤ 5 := fun c hc => (hR c hc).2.1
  have hO := ord0 hp hs ha o0
  have e1 := boL_1 (cl := clF x) hs 6 0 0 o0 (by omega) (by omega)
  have vb := wvO_ok (clF_wb (x := x)) hp.2.1 hO.1 hO.2.1
  refine wp_aload_n dX1_goThrough_0 rfl ?_
  refine wp_iconst dX1_goThrough_1 ?_
  refine wp_putv (fs' := oF n0 0 s0 l0 m0) dX1_goThrough_2 (pX1_29 rfl) h9 (Nat.le_of_ble_eq_true rfl) (fitF_int _) rfl ?_
  refine wp_aload_n dX1_goThrough_5 rfl ?_
  refine wp_iconst dX1_goThrough_6 ?_
  refine wp_putv (fs' := oF n0 0 0 l0 m0) dX1_goThrough_7 (pX1_33 rfl) (gs_eq (gs_lt h9)) (Nat.le_of_ble_eq_true rfl) (fitF_int _) rfl ?_
  refine wp_aload_n dX1_goThrough_10 rfl ?_
  refine wp_ldc dX1_goThrough_11 cX1_38 ?_
  refine wp_putv (fs' := oF n0 0 0 2147483647 m0) dX1_goThrough_13 (pX1_39 rfl) (gs_eq (gs_l (gs_lt h9))) (Nat.le_of_ble_eq_true rfl) (fitF_int _) rfl ?_
  refine wp_aload_n dX1_goThrough_16 rfl ?_
  refine wp_iconst dX1_goThrough_17 ?_
  refine wp_putv (fs' := oF n0 0 0 2147483647 0) dX1_goThrough_18 (pX1_42 rfl) (gs_eq (gs_l (gs_l (gs_lt h9)))) (Nat.le_of_ble_eq_true rfl) (fitF_int _) rfl ?_
  refine wp_aload_n dX1_goThrough_21 rfl ?_
  refine wp_getf dX1_goThrough_22 fX1_21 (gs_eq (gs_l (gs_l (gs_l (gs_lt h9))))) rfl ?_
  refine wp_lconst (z := 0) dX1_goThrough_25 rfl ?_
  refine wp_is2 dX1_goThrough_26 SJ7_fill_d0a16 lX1_45 (rq0 rfl rfl) (Nat.le_of_ble_eq_true rfl) (C_fillL (by decide) (gs_ne (by decide) (gs_ne (by decide) (gs_ne (by decide) (gs_ne (by decide) h13)))) ?_)
  dsimp only [pushR]
  refine wp_aload_n dX1_goThrough_29 rfl ?_
  refine wp_aload_n dX1_goThrough_30 rfl ?_
  refine wp_iload_n dX1_goThrough_31 rfl ?_
  have hP2 : PL (((((h.set 9 (oO 1 (oF n0 0 s0 l0 m0))).set 9 (oO 1 (oF n0 0 0 l0 m0))).set 9 (oO 1 (oF n0 0 0 2147483647 m0))).set 9 (oO 1 (oF n0 0 0 2147483647 0))).set 13 (oL 16 (flL fb0 0 ((16 : Nat) : Int)))) pl K Fs S sz := PL.fr hP (fun i q1 q2 => by (repeat rw [List.getElem?_set_ne (by omega)]))
  refine wp_iv2 dX1_goThrough_32 VX1_beginOrder lX1_51 (gs_ne (by decide) (gs_eq (gs_l (gs_l (gs_l (gs_lt h9)))))) (rq0 rfl rfl) (Nat.le_of_ble_eq_true rfl) (C_beginOrder (gs_ne (by decide) (gs_eq (gs_l (gs_l (gs_l (gs_lt h9)))))) (gs_ne (by decide) (gs_ne (by decide) (gs_ne (by decide) (gs_ne (by decide) (gs_ne (by decide) h10))))) hP2 hs ⟨by have := hp.1; omega, hp.1.2⟩ ha ?_)
  dsimp only [pushR]
  rw [e1]
  refine wp_iconst dX1_goThrough_35 ?_
  refine wp_istore (L' := [some (vR 9), some (vR 1), some (vR 16), some (vI x), some (vI key), some (vI 1), none, none, none]) dX1_goThrough_36 (by decide) rfl ?_
  refine wp_iconst dX1_goThrough_38 ?_
  refine wp_istore (L' := [some (vR 9), some (vR 1), some (vR 16), some (vI x), some (vI key), some (vI 1), some (vI 0), none, none]) dX1_goThrough_39 (by decide) rfl ?_
  have hp0 : OPL h (((((((h.set 9 (oO 1 (oF n0 0 s0 l0 m0))).set 9 (oO 1 (oF n0 0 0 l0 m0))).set 9 (oO 1 (oF n0 0 0 2147483647 m0))).set 9 (oO 1 (oF n0 0 0 2147483647 0))).set 13 (oL 16 (flL fb0 0 ((16 : Nat) : Int)))).set 9 (oO 1 (oF (aoL (clF x) sz 6 0 0) 0 0 2147483647 0))).set 10 (oI 8 ((boL (clF x) sz 6 0 0 o0).2))) (aoL (clF x) sz 6 0 0) 0 0 2147483647 0 ((boL (clF x) sz 6 0 0 o0).2) fs0 pi0 (flL fb0 0 ((16 : Nat) : Int)) tf := ⟨by simp only [List.length_set], fun j q4 q => by (repeat rw [List.getElem?_set_ne (by omega)]), (gs_ne (by decide) (gs_eq (gs_l (gs_l (gs_l (gs_l (gs_l (gs_lt h9)))))))), (gs_eq (gs_l (gs_l (gs_l (gs_l (gs_l (gs_l (gs_lt h10)))))))), (gs_ne (by decide) (gs_ne (by decide) (gs_ne (by decide) (gs_ne (by decide) (gs_ne (by decide) (gs_ne (by decide) (gs_ne (by decide) h11))))))), (gs_ne (by decide) (gs_ne (by decide) (gs_ne (by decide) (gs_ne (by decide) (gs_ne (by decide) (gs_ne (by decide) (gs_ne (by decide) h12))))))), (gs_ne (by decide) (gs_ne (by decide) (gs_eq (gs_l (gs_l (gs_l (gs_l (gs_lt h13)))))))), (gs_ne (by decide) (gs_ne (by decide) (gs_ne (by decide) (gs_ne (by decide) (gs_ne (by decide) (gs_ne (by decide) (gs_ne (by decide) h4)))))))⟩
  exact lp_go h1 h2 h3 hzf hP hR clF_wb hp.2.1 hA hB hBB hk 6561 _ 0 0 2147483647 0 0 0 fs0 pi0 _ z0 tf _ _ _ (by omega) hO (by omega) (by omega) (by unfold r32; omega) (by unfold r32; omega) hzt (FBr.z (fun q hq => if_pos ⟨hq.1, by omega⟩)) hp0 hQ
set_option maxHeartbeats 4000000 in
theorem C_corders (h0 : h[0]? = some (oO 6 (cF sp kp))) (h1 : h[1]? = some (oO 5 [vR 2])) (h2 : h[2]? = some (oI 1060 f)) (h3 : h[3]? = some (oO 5 [vR 4])) (h4 : h[4]? = some (oI 1060 tf)) (h9 : h[9]? = some (oO 1 (oF n0 t0 s0 l0 m0))) (h10 : h[10]? = some (oI 8 o0)) (h11 : h[11]? = some (oI 8 fs0)) (h12 : h[12]? = some (oI 6 pi0)) (h13 : h[13]? = some (oL 16 fb0)) (hzf : SmZ f) (hzt : SmZ tf) (hP : PL h pl K Fs S sz) (hR : PRel K Fs S sz P PS) (hA : AK B f g) (hB : 1000 ≤ B) (hBB : B + 10000 ≤ 8000000) (rx : r32 x) (rkey : r32 key) (ri : r32 i) (hQ0 : ¬ (PLAN x sz ∧ (0 ≤ key ∧ key < 10) ∧ 0 ≤ i ∧ i < 5) → Q (some (vI (-1))) h) (hQ1 : PLAN x sz ∧ (0 ≤ key ∧ key < 10) ∧ 0 ≤ i ∧ i < 5 → 8 < (aoL (clF x) sz 6 0 0) → Q (some (vI (-5))) h) (hQ : PLAN x sz ∧ (0 ≤ key ∧ key < 10) ∧ 0 ≤ i ∧ i < 5 → (aoL (clF x) sz 6 0 0) ≤ 8 → ∀ h', FRO h h' → Q (some (vI (oPick (ordL (cOb K Fs S f key (aoL (clF x) sz 6 0 0)) (aoL (clF x) sz 6 0 0) 6561 (boL (clF x) sz 6 0 0 o0).2 0 0 2147483647 0 0 fs0 z0) i))) h') : Cl X kX6_orders [vR 0, vI x, vI key, vI i] h Q := by
  refine cl_of rfl (Nat.le_of_ble_eq_true rfl) rfl ?_
  have hs : ∀ c, 0 ≤ c ∧ c < 6 → 0 ≤ sz c ∧ sz c ≤ 5 := fun c hc => (hR c hc).2.1
  have ab := aoL_b (cl := clF x) hs 6 0 0 (by omega) (by omega)
  refine wp_aload_n dX6_orders_0 rfl ?_
  refine wp_iload_n dX6_orders_1 rfl ?_
  refine wp_iv1 dX6_orders_2 VX6_arePlanners lX6_255 h0 (rq0 rfl rfl) (Nat.le_of_ble_eq_true rfl) (C_arePlanners h0 hP rx (fun c hc => by have := hs c hc; unfold r32; omega) (fun pp => ?_) (fun pp => ?_))
  · dsimp only [pushR]
    refine wp_if_eq 25 dX6_orders_5 rfl ⟨by omega, by omega⟩ (fun c5 => absurd c5 (by omega)) (fun c5 => ?_)
    refine wp_iload_n dX6_orders_8 rfl ?_
    refine wp_bipush dX6_orders_9 rfl ?_
    refine wp_is2 dX6_orders_11 SX6_below lX6_81 (rq0 rfl rfl) (Nat.le_of_ble_eq_true rfl) (C_below (by first | assumption | exact hR _ | exact bI_r _ | (unfold r32; omega)) (by first | assumption | exact hR _ | exact bI_r _ | (unfold r32; omega)) ?_)
    dsimp only [pushR]
    refine wp_beq 25 dX6_orders_14 rfl (fun c14 => ?_) (fun c14 => ?_)
    · refine wp_iconst dX6_orders_25 ?_
      exact wp_iret dX6_orders_26 rfl (hQ0 (fun q => by first | exact pp q.1 | omega))
    · refine wp_iload_n dX6_orders_17 rfl ?_
      refine wp_iconst dX6_orders_18 ?_
      refine wp_is2 dX6_orders_19 SX6_below lX6_81 (rq0 rfl rfl) (Nat.le_of_ble_eq_true rfl) (C_below (by first | assumption | exact hR _ | exact bI_r _ | (unfold r32; omega)) (by first | assumption | exact hR _ | exact bI_r _ | (unfold r32; omega)) ?_)
      dsimp only [pushR]
      refine wp_bne 27 dX6_orders_22 rfl (fun c22 => ?_) (fun c22 => ?_)
      · refine wp_aload_n dX6_orders_27 rfl ?_
        refine wp_iload_n dX6_orders_28 rfl ?_
        refine wp_iv1 dX6_orders_29 VX6_actsOf lX6_258 h0 (rq0 rfl rfl) (Nat.le_of_ble_eq_true rfl) (C_actsOf h0 hP ⟨by have := pp.1; omega, pp.1.2⟩ ?_)
        dsimp only [pushR]
        refine wp_bipush dX6_orders_32 rfl ?_
        refine wp_icmp_le 40 dX6_orders_34 rfl (by first | assumption | (unfold r32; omega)) ⟨by omega, by omega⟩ (fun c34 => ?_) (fun c34 => ?_)
        · refine wp_aload_n dX6_orders_40 rfl ?_
          refine wp_getf dX6_orders_41 fX6_41 h0 rfl ?_
          refine wp_aload_n dX6_orders_44 rfl ?_
          refine wp_getf dX6_orders_45 fX6_10 h0 rfl ?_
          refine wp_aload_n dX6_orders_48 rfl ?_
          refine wp_getf dX6_orders_49 fX6_54 h0 rfl ?_
          refine wp_iload_n dX6_orders_52 rfl ?_
          refine wp_iload_n dX6_orders_53 rfl ?_
          refine wp_iv4 dX6_orders_54 VX1_goThrough lX6_261 h9 (rq0 rfl rfl) (Nat.le_of_ble_eq_true rfl) (C_goThrough h1 h2 h3 h4 h9 h10 h11 h12 h13 hzf hzt hP hR hA hB hBB (by omega) pp (by omega) (fun h' o' pi' fb' fv' tf' hp hF hz => ?_))
          dsimp only [pushR]
          have hfr : FRO h h' := ⟨hp.1, hp.2.1, ⟨_, _, _, _, _, hp.2.2.1⟩, ⟨_, hp.2.2.2.1⟩, ⟨_, hp.2.2.2.2.1⟩, ⟨_, hp.2.2.2.2.2.1⟩, ⟨_, hp.2.2.2.2.2.2.1⟩, _, hz, hp.2.2.2.2.2.2.2⟩
          have z0_ := (hp.2.1 0 (by decide) (by decide)).trans h0
          have qv := hQ ⟨pp, by omega⟩ (by omega) h' hfr
          have hO := ord0 pp hs (by omega) o0
          refine wp_aload_n dX6_orders_57 rfl ?_
          refine wp_getf dX6_orders_58 fX6_41 z0_ rfl ?_
          refine wp_iload_n dX6_orders_61 rfl ?_
          refine wp_iv1 dX6_orders_62 VX1_outcome lX6_265 hp.2.2.1 (rq0 rfl rfl) (Nat.le_of_ble_eq_true rfl) (C_oout (fs := (ordL (cOb K Fs S f key (aoL (clF x) sz 6 0 0)) (aoL (clF x) sz 6 0 0) 6561 (boL (clF x) sz 6 0 0 o0).2 0 0 2147483647 0 0 fs0 z0).2.2.2.2.2) hp.2.2.1 hp.2.2.2.2.2.2.1 hF.1 hF.2.2.2 ri ?_)
          dsimp only [pushR]
          exact wp_iret dX6_orders_65 rfl qv
        · refine wp_bipush dX6_orders_37 rfl ?_
          exact wp_iret dX6_orders_39 rfl (hQ1 ⟨pp, by omega⟩ (by omega))
      · refine wp_iconst dX6_orders_25 ?_
        exact wp_iret dX6_orders_26 rfl (hQ0 (fun q => by first | exact pp q.1 | omega))
  · dsimp only [pushR]
    refine wp_if_eq 25 dX6_orders_5 rfl ⟨by omega, by omega⟩ (fun c5 => ?_) (fun c5 => absurd c5 (by omega))
    refine wp_iconst dX6_orders_25 ?_
    exact wp_iret dX6_orders_26 rfl (hQ0 (fun q => by first | exact pp q.1 | omega))
theorem ord_s {ob : (Int → Int) → Int × Int × Int} (hn : 1 ≤ n ∧ n ≤ 8) : ∀ {kk : Nat} {o : Int → Int} (t s l m un : Int) (fs fv : Int → Int), 0 ≤ s ∧ s + kk ≤ 1000000 → r32 (ordL ob n kk o t s l m un fs fv).2.1 := by
  intro kk
  induction kk with
  | zero => intro o t s l m un fs fv h; unfold ordL r32; dsimp only; omega
  | succ kk ih =>
    intro o t s l m un fs fv h
    unfold ordL
    split
    · dsimp only; unfold r32; split <;> omega
    · exact ih _ _ _ _ _ _ _ (by split <;> omega)
set_option maxHeartbeats 4000000 in
theorem C_cwitness (h0 : h[0]? = some (oO 6 (cF sp kp))) (h1 : h[1]? = some (oO 5 [vR 2])) (h2 : h[2]? = some (oI 1060 f)) (h3 : h[3]? = some (oO 5 [vR 4])) (h4 : h[4]? = some (oI 1060 tf)) (h9 : h[9]? = some (oO 1 (oF n0 t0 s0 l0 m0))) (h10 : h[10]? = some (oI 8 o0)) (h11 : h[11]? = some (oI 8 fs0)) (h12 : h[12]? = some (oI 6 pi0)) (h13 : h[13]? = some (oL 16 fb0)) (hzf : SmZ f) (hzt : SmZ tf) (hP : PL h pl K Fs S sz) (hR : PRel K Fs S sz P PS) (hA : AK B f g) (hB : 1000 ≤ B) (hBB : B + 10000 ≤ 8000000) (rx : r32 x) (rk : r32 k) (hQ0 : ¬ (PLAN x sz ∧ 0 ≤ k) → Q (some (vI (-1))) h) (hQ1 : PLAN x sz ∧ 0 ≤ k → 8 < (aoL (clF x) sz 6 0 0) → Q (some (vI (-5))) h) (hQ : PLAN x sz ∧ 0 ≤ k → (aoL (clF x) sz 6 0 0) ≤ 8 → ∀ h', FRO h h' → Q (some (vI (oWit (ordL (cOb K Fs S f 0 (aoL (clF x) sz 6 0 0)) (aoL (clF x) sz 6 0 0) 6561 (boL (clF x) sz 6 0 0 o0).2 0 0 2147483647 0 0 fs0 z0) (aoL (clF x) sz 6 0 0) k))) h') : Cl X kX6_witness [vR 0, vI x, vI k] h Q := by
  refine cl_of rfl (Nat.le_of_ble_eq_true rfl) rfl ?_
  have hs : ∀ c, 0 ≤ c ∧ c < 6 → 0 ≤ sz c ∧ sz c ≤ 5 := fun c hc => (hR c hc).2.1
  have ab := aoL_b (cl := clF x) hs 6 0 0 (by omega) (by omega)
  refine wp_aload_n dX6_witness_0 rfl ?_
  refine wp_iload_n dX6_witness_1 rfl ?_
  refine wp_iv1 dX6_witness_2 VX6_arePlanners lX6_255 h0 (rq0 rfl rfl) (Nat.le_of_ble_eq_true rfl) (C_arePlanners h0 hP rx (fun c hc => by have := hs c hc; unfold r32; omega) (fun pp => ?_) (fun pp => ?_))
  · dsimp only [pushR]
    refine wp_if_eq 12 dX6_witness_5 rfl ⟨by omega, by omega⟩ (fun c5 => absurd c5 (by omega)) (fun c5 => ?_)
    refine wp_iload_n dX6_witness_8 rfl ?_
    refine wp_if_ge 14 dX6_witness_9 rfl (by first | assumption | (unfold r32; omega)) (fun c9 => ?_) (fun c9 => ?_)
    · refine wp_aload_n dX6_witness_14 rfl ?_
      refine wp_iload_n dX6_witness_15 rfl ?_
      refine wp_iv1 dX6_witness_16 VX6_actsOf lX6_258 h0 (rq0 rfl rfl) (Nat.le_of_ble_eq_true rfl) (C_actsOf h0 hP ⟨by have := pp.1; omega, pp.1.2⟩ ?_)
      dsimp only [pushR]
      refine wp_bipush dX6_witness_19 rfl ?_
      refine wp_icmp_le 27 dX6_witness_21 rfl (by first | assumption | (unfold r32; omega)) ⟨by omega, by omega⟩ (fun c21 => ?_) (fun c21 => ?_)
      · refine wp_aload_n dX6_witness_27 rfl ?_
        refine wp_getf dX6_witness_28 fX6_41 h0 rfl ?_
        refine wp_aload_n dX6_witness_31 rfl ?_
        refine wp_getf dX6_witness_32 fX6_10 h0 rfl ?_
        refine wp_aload_n dX6_witness_35 rfl ?_
        refine wp_getf dX6_witness_36 fX6_54 h0 rfl ?_
        refine wp_iload_n dX6_witness_39 rfl ?_
        refine wp_iconst dX6_witness_40 ?_
        refine wp_iv4 dX6_witness_41 VX1_goThrough lX6_261 h9 (rq0 rfl rfl) (Nat.le_of_ble_eq_true rfl) (C_goThrough h1 h2 h3 h4 h9 h10 h11 h12 h13 hzf hzt hP hR hA hB hBB (by omega) pp (by omega) (fun h' o' pi' fb' fv' tf' hp hF hz => ?_))
        dsimp only [pushR]
        have hfr : FRO h h' := ⟨hp.1, hp.2.1, ⟨_, _, _, _, _, hp.2.2.1⟩, ⟨_, hp.2.2.2.1⟩, ⟨_, hp.2.2.2.2.1⟩, ⟨_, hp.2.2.2.2.2.1⟩, ⟨_, hp.2.2.2.2.2.2.1⟩, _, hz, hp.2.2.2.2.2.2.2⟩
        have z0_ := (hp.2.1 0 (by decide) (by decide)).trans h0
        have qv := hQ ⟨pp, by omega⟩ (by omega) h' hfr
        have hO := ord0 pp hs (by omega) o0
        refine wp_aload_n dX6_witness_44 rfl ?_
        refine wp_getf dX6_witness_45 fX6_41 z0_ rfl ?_
        refine wp_iload_n dX6_witness_48 rfl ?_
        refine wp_iv1 dX6_witness_49 VX1_witnessAt lX6_266 hp.2.2.1 (rq0 rfl rfl) (Nat.le_of_ble_eq_true rfl) (C_witAt hp.2.2.1 hp.2.2.2.2.1 (by omega) rk (by omega) (ord_s hO.1 0 0 2147483647 0 0 fs0 z0 (by omega)) ?_)
        dsimp only [pushR]
        exact wp_iret dX6_witness_52 rfl qv
      · refine wp_bipush dX6_witness_24 rfl ?_
        exact wp_iret dX6_witness_26 rfl (hQ1 ⟨pp, by omega⟩ (by omega))
    · refine wp_iconst dX6_witness_12 ?_
      exact wp_iret dX6_witness_13 rfl (hQ0 (fun q => by first | exact pp q.1 | omega))
  · dsimp only [pushR]
    refine wp_if_eq 12 dX6_witness_5 rfl ⟨by omega, by omega⟩ (fun c5 => ?_) (fun c5 => absurd c5 (by omega))
    refine wp_iconst dX6_witness_12 ?_
    exact wp_iret dX6_witness_13 rfl (hQ0 (fun q => by first | exact pp q.1 | omega))
end OC_
