/-! shelves, both faces -/
/-- the class' shelves -/
def shF : Int → Option Nat := fun i => if 0 ≤ i ∧ i < 4 then some (46 + i.toNat) else none
def SHc (h : AH) (Rc : Int → Int → Int) (Zc : Int → Int) : Prop := h[45]? = some (oR 2 4 shF) ∧ (∀ d, 0 ≤ d ∧ d < 4 → h[46 + d.toNat]? = some (oL 40 (Rc d))) ∧ h[50]? = some (oI 4 Zc)
section SF
variable {X : XS} {h : AH} {Q : Option AV → AH → Prop} {sp kp : AV} {Rc : Int → Int → Int} {Zc : Int → Int} {g Kp : Int → Int} {dn km ln ik : Int} {T P PS R Z I : Int → Int}
theorem shF_at {d : Int} (hd : 0 ≤ d ∧ d < 4) : shF d = some (46 + d.toNat) := if_pos hd
def flL (f : Int → Int) (v : Int) (n : Int) : Int → Int := fun i => if 0 ≤ i ∧ i < n then v else f i
theorem lp_fillL {p n : Nat} {v : Int} {b : Nat × Nat} (hn : n < 1000000) : ∀ (m : Nat) (k : Int) (f : Int → Int), k + m = n → 0 ≤ k → h[p]? = some (oL n f) → Q none (h.set p (oL n (flL f v n))) → (∀ i, 0 ≤ i ∧ i < k → f i = v) → Wp X kJ7_fill_d0a16 6 [some (vR p), some (vL v), none, some (vI k), some (vI n)] [] h b Q := by
  intro m
  induction m generalizing h with
  | zero =>
    intro k f h1 h2 hp hQ hf
    refine wp_iload_n dJ7_fill_d0a16_6 rfl ?_
    refine wp_iload dJ7_fill_d0a16_7 rfl ?_
    refine wp_icmp_ge 22 dJ7_fill_d0a16_9 rfl (by unfold r32; omega) (by unfold r32; omega) (fun c => ?_) (fun c => absurd (by omega) c)
    have e : flL f v n = f := by
      funext i
      unfold flL
      split
      · exact (hf i (by omega)).symm
      · rfl
    rw [e, set_same hp] at hQ
    exact wp_ret dJ7_fill_d0a16_22 rfl hQ
  | succ m ih =>
    intro k f h1 h2 hp hQ hf
    refine wp_iload_n dJ7_fill_d0a16_6 rfl ?_
    refine wp_iload dJ7_fill_d0a16_7 rfl ?_
    refine wp_icmp_ge 22 dJ7_fill_d0a16_9 rfl (by unfold r32; omega) (by unfold r32; omega) (fun c => absurd c (by omega)) (fun c => ?_)
    refine wp_aload_n dJ7_fill_d0a16_12 rfl ?_
    refine wp_iload_n dJ7_fill_d0a16_13 rfl ?_
    refine wp_lload_n dJ7_fill_d0a16_14 rfl ?_
    refine wp_lsv dJ7_fill_d0a16_15 hp (by omega) (by omega) ?_
    refine wp_iinc (L' := [some (vR p), some (vL v), none, some (vI (k + 1)), some (vI n)]) dJ7_fill_d0a16_16 rfl rfl ?_
    refine wp_goto 6 dJ7_fill_d0a16_19 rfl ?_
    refine ih (k + 1) (ud f k v) (by omega) (by omega) (gs_eq (gs_lt hp)) ?_ (fun i hi => ?_)
    · rw [List.set_set]
      have e : flL (ud f k v) v n = flL f v n := by
        funext i
        unfold flL
        split
        · rfl
        · rw [ud_ne (by omega)]
      rw [e]
      exact hQ
    · rcases Decidable.em (i = k) with e | e
      · subst e; exact ud_eq
      · rw [ud_ne e]; exact hf i (by omega)
theorem C_fillL {p n : Nat} {v : Int} {f : Int → Int} (hn : n < 1000000) (hp : h[p]? = some (oL n f)) (hQ : Q none (h.set p (oL n (flL f v n)))) : Cl X kJ7_fill_d0a16 [vR p, vL v] h Q := by
  refine cl_of rfl (Nat.le_of_ble_eq_true rfl) rfl ?_
  refine wp_iconst dJ7_fill_d0a16_0 ?_
  refine wp_istore_n (L' := [some (vR p), some (vL v), none, some (vI 0), none]) dJ7_fill_d0a16_1 (by decide) rfl ?_
  refine wp_aload_n dJ7_fill_d0a16_2 rfl ?_
  refine wp_alen dJ7_fill_d0a16_3 hp rfl ?_
  refine wp_istore (L' := [some (vR p), some (vL v), none, some (vI 0), some (vI n)]) dJ7_fill_d0a16_4 (by decide) rfl ?_
  exact lp_fillL hn n 0 f (by omega) (by omega) hp hQ (fun i hi => by omega)
def pRef (Zc : Int → Int) (d i : Int) : Int := if 0 ≤ d ∧ d < 4 then if Zc d < 0 then -11 else if 0 ≤ i ∧ i < Zc d then 0 else -13 else -1
theorem pRef_r (Zc : Int → Int) (d i : Int) : r32 (pRef Zc d i) := by unfold pRef r32; (repeat' split) <;> omega
set_option maxHeartbeats 1000000 in
theorem C_placeRefusal {d i : Int} (h0 : h[0]? = some (oO 6 (cF sp kp))) (hS : SHc h Rc Zc) (rd : r32 d) (ri : r32 i) (hZ : ∀ j, r32 (Zc j)) (hQ : Q (some (vI (pRef Zc d i))) h) : Cl X kX6_placeRefusal [vR 0, vI d, vI i] h Q := by
  refine cl_of rfl (Nat.le_of_ble_eq_true rfl) rfl ?_
  have hR := hZ
  refine wp_iload_n dX6_placeRefusal_0 rfl ?_
  refine wp_iconst dX6_placeRefusal_1 ?_
  refine wp_is2 dX6_placeRefusal_2 SX6_below lX6_81 (rq0 rfl rfl) (Nat.le_of_ble_eq_true rfl) (C_below (by first | assumption | exact hR _ | exact bI_r _ | (unfold r32; omega)) (by first | assumption | exact hR _ | exact bI_r _ | (unfold r32; omega)) ?_)
  dsimp only [pushR]
  refine wp_bne 10 dX6_placeRefusal_5 rfl (fun c5 => ?_) (fun c5 => ?_)
  · refine wp_aload_n dX6_placeRefusal_10 rfl ?_
    refine wp_getf dX6_placeRefusal_11 fX6_68 h0 rfl ?_
    refine wp_iload_n dX6_placeRefusal_14 rfl ?_
    refine wp_iav (v := Zc d) dX6_placeRefusal_15 hS.2.2 (by decide) (by omega) rfl ?_
    refine wp_if_ge 22 dX6_placeRefusal_16 rfl (by first | assumption | exact hR _ | exact bI_r _ | (unfold r32; omega)) (fun c16 => ?_) (fun c16 => ?_)
    · refine wp_iload_n dX6_placeRefusal_22 rfl ?_
      refine wp_aload_n dX6_placeRefusal_23 rfl ?_
      refine wp_getf dX6_placeRefusal_24 fX6_68 h0 rfl ?_
      refine wp_iload_n dX6_placeRefusal_27 rfl ?_
      refine wp_iav (v := Zc d) dX6_placeRefusal_28 hS.2.2 (by decide) (by omega) rfl ?_
      refine wp_is2 dX6_placeRefusal_29 SX6_below lX6_81 (rq0 rfl rfl) (Nat.le_of_ble_eq_true rfl) (C_below (by first | assumption | exact hR _ | exact bI_r _ | (unfold r32; omega)) (by first | assumption | exact hR _ | exact bI_r _ | (unfold r32; omega)) ?_)
      dsimp only [pushR]
      refine wp_beq 39 dX6_placeRefusal_32 rfl (fun c32 => ?_) (fun c32 => ?_)
      · refine wp_bipush dX6_placeRefusal_39 rfl ?_
        exact wp_iret dX6_placeRefusal_41 rfl (by unfold pRef at hQ; (repeat' split at hQ) <;> first | (exfalso; omega) | exact hQ)
      · refine wp_iconst dX6_placeRefusal_35 ?_
        refine wp_goto 41 dX6_placeRefusal_36 rfl ?_
        exact wp_iret dX6_placeRefusal_41 rfl (by unfold pRef at hQ; (repeat' split at hQ) <;> first | (exfalso; omega) | exact hQ)
    · refine wp_bipush dX6_placeRefusal_19 rfl ?_
      exact wp_iret dX6_placeRefusal_21 rfl (by unfold pRef at hQ; (repeat' split at hQ) <;> first | (exfalso; omega) | exact hQ)
  · refine wp_iconst dX6_placeRefusal_8 ?_
    exact wp_iret dX6_placeRefusal_9 rfl (by unfold pRef at hQ; (repeat' split at hQ) <;> first | (exfalso; omega) | exact hQ)
set_option maxHeartbeats 1000000 in
theorem C_cput {d i v : Int} (h0 : h[0]? = some (oO 6 (cF sp kp))) (hS : SHc h Rc Zc) (rd : r32 d) (ri : r32 i) (hZ : ∀ j, r32 (Zc j)) (hZ2 : ∀ j, Zc j ≤ 40) (hQ0 : pRef Zc d i < 0 → Q (some (vI (pRef Zc d i))) h) (hQ : ¬ pRef Zc d i < 0 → 0 ≤ d ∧ d < 4 → 0 ≤ i ∧ i < Zc d → Q (some (vI 1)) (h.set (46 + d.toNat) (oL 40 (ud (Rc d) i v)))) : Cl X kX6_put [vR 0, vI d, vI i, vL v] h Q := by
  refine cl_of rfl (Nat.le_of_ble_eq_true rfl) rfl ?_
  have hb : ¬ pRef Zc d i < 0 → (0 ≤ d ∧ d < 4) ∧ 0 ≤ i ∧ i < Zc d := by unfold pRef; (repeat' split) <;> omega
  have hz := hZ2 d
  refine wp_aload_n dX6_put_0 rfl ?_
  refine wp_iload_n dX6_put_1 rfl ?_
  refine wp_iload_n dX6_put_2 rfl ?_
  refine wp_iv2 dX6_put_3 VX6_placeRefusal lX6_272 h0 (rq0 rfl rfl) (Nat.le_of_ble_eq_true rfl) (C_placeRefusal h0 hS rd ri hZ ?_)
  dsimp only [pushR]
  refine wp_istore (L' := [some (vR 0), some (vI d), some (vI i), some (vL v), none, some (vI (pRef Zc d i))]) dX6_put_6 (by decide) rfl ?_
  refine wp_iload dX6_put_8 rfl ?_
  refine wp_if_ge 16 dX6_put_10 rfl (pRef_r _ _ _) (fun c10 => ?_) (fun c10 => ?_)
  · have hb2 := hb (by omega)
    have hb2 := hb (by omega)
    refine wp_aload_n dX6_put_16 rfl ?_
    refine wp_getf dX6_put_17 fX6_65 h0 rfl ?_
    refine wp_iload_n dX6_put_20 rfl ?_
    refine wp_aav (j' := (46 + d.toNat)) dX6_put_21 hS.1 (by decide) (by omega) (shF_at (by omega)) ?_
    refine wp_iload_n dX6_put_22 rfl ?_
    refine wp_lload_n dX6_put_23 rfl ?_
    refine wp_lsv dX6_put_24 (hS.2.1 d (by omega)) (by decide) (by omega) ?_
    refine wp_iconst dX6_put_25 ?_
    exact wp_iret dX6_put_26 rfl (hQ (by omega) (by omega) (by omega))
  · refine wp_iload dX6_put_13 rfl ?_
    exact wp_iret dX6_put_15 rfl (hQ0 (by omega))
set_option maxHeartbeats 1000000 in
theorem C_celement {d i : Int} (h0 : h[0]? = some (oO 6 (cF sp kp))) (hS : SHc h Rc Zc) (rd : r32 d) (ri : r32 i) (hZ : ∀ j, r32 (Zc j)) (hZ2 : ∀ j, Zc j ≤ 40) (hQ0 : pRef Zc d i < 0 → Q (some (vL (-9223372036854775808))) h) (hQ : ¬ pRef Zc d i < 0 → 0 ≤ d ∧ d < 4 → 0 ≤ i ∧ i < Zc d → Q (some (vL (Rc d i))) h) : Cl X kX6_element [vR 0, vI d, vI i] h Q := by
  refine cl_of rfl (Nat.le_of_ble_eq_true rfl) rfl ?_
  have hb : ¬ pRef Zc d i < 0 → (0 ≤ d ∧ d < 4) ∧ 0 ≤ i ∧ i < Zc d := by unfold pRef; (repeat' split) <;> omega
  have hz := hZ2 d
  refine wp_aload_n dX6_element_0 rfl ?_
  refine wp_iload_n dX6_element_1 rfl ?_
  refine wp_iload_n dX6_element_2 rfl ?_
  refine wp_iv2 dX6_element_3 VX6_placeRefusal lX6_272 h0 (rq0 rfl rfl) (Nat.le_of_ble_eq_true rfl) (C_placeRefusal h0 hS rd ri hZ ?_)
  dsimp only [pushR]
  refine wp_if_ge 15 dX6_element_6 rfl (pRef_r _ _ _) (fun c6 => ?_) (fun c6 => ?_)
  · have hb2 := hb (by omega)
    have hb2 := hb (by omega)
    refine wp_aload_n dX6_element_15 rfl ?_
    refine wp_getf dX6_element_16 fX6_65 h0 rfl ?_
    refine wp_iload_n dX6_element_19 rfl ?_
    refine wp_aav (j' := (46 + d.toNat)) dX6_element_20 hS.1 (by decide) (by omega) (shF_at (by omega)) ?_
    refine wp_iload_n dX6_element_21 rfl ?_
    refine wp_lav (v := (Rc d) i) dX6_element_22 (hS.2.1 d (by omega)) (by decide) (by omega) rfl ?_
    exact wp_lret dX6_element_23 rfl (by first | exact hQ0 (by omega) | exact hQ (by omega) (by omega) (by omega))
  · refine wp_ldc2 dX6_element_9 cX6_277 ?_
    refine wp_goto 23 dX6_element_12 rfl ?_
    exact wp_lret dX6_element_23 rfl (by first | exact hQ0 (by omega) | exact hQ (by omega) (by omega) (by omega))
set_option maxHeartbeats 1000000 in
theorem C_crow {d n : Int} (h0 : h[0]? = some (oO 6 (cF sp kp))) (hS : SHc h Rc Zc) (rd : r32 d) (rn : r32 n) (hQ0 : ¬ ((0 ≤ d ∧ d < 4) ∧ n ≤ 40) → Q (some (vI (-1))) h) (hQ1 : (0 ≤ d ∧ d < 4) ∧ n ≤ 40 → n < 0 → Q (some (vI (-14))) h) (hQ : (0 ≤ d ∧ d < 4) ∧ n ≤ 40 → ¬ n < 0 → Q (some (vI 1)) ((h.set (46 + d.toNat) (oL 40 (flL (Rc d) 0 ((40 : Nat) : Int)))).set 50 (oI 4 (ud Zc d n)))) : Cl X kX6_row [vR 0, vI d, vI n] h Q := by
  refine cl_of rfl (Nat.le_of_ble_eq_true rfl) rfl ?_
  refine wp_iload_n dX6_row_0 rfl ?_
  refine wp_iconst dX6_row_1 ?_
  refine wp_is2 dX6_row_2 SX6_below lX6_81 (rq0 rfl rfl) (Nat.le_of_ble_eq_true rfl) (C_below (by first | assumption | exact hR _ | exact bI_r _ | (unfold r32; omega)) (by first | assumption | exact hR _ | exact bI_r _ | (unfold r32; omega)) ?_)
  dsimp only [pushR]
  refine wp_beq 14 dX6_row_5 rfl (fun c5 => ?_) (fun c5 => ?_)
  · refine wp_iconst dX6_row_14 ?_
    exact wp_iret dX6_row_15 rfl (by first | exact hQ0 (by omega) | exact hQ1 (by omega) (by omega))
  · refine wp_iload_n dX6_row_8 rfl ?_
    refine wp_bipush dX6_row_9 rfl ?_
    refine wp_icmp_le 16 dX6_row_11 rfl (by first | assumption | exact hR _ | exact bI_r _ | (unfold r32; omega)) ⟨by omega, by omega⟩ (fun c11 => ?_) (fun c11 => ?_)
    · refine wp_iload_n dX6_row_16 rfl ?_
      refine wp_if_ge 23 dX6_row_17 rfl (by first | assumption | exact hR _ | exact bI_r _ | (unfold r32; omega)) (fun c17 => ?_) (fun c17 => ?_)
      · refine wp_aload_n dX6_row_23 rfl ?_
        refine wp_getf dX6_row_24 fX6_65 h0 rfl ?_
        refine wp_iload_n dX6_row_27 rfl ?_
        refine wp_aav (j' := (46 + d.toNat)) dX6_row_28 hS.1 (by decide) (by omega) (shF_at (by omega)) ?_
        refine wp_lconst (z := 0) dX6_row_29 rfl ?_
        refine wp_is2 dX6_row_30 SJ7_fill_d0a16 lX6_269 (rq0 rfl rfl) (Nat.le_of_ble_eq_true rfl) (C_fillL (by decide) (hS.2.1 d (by omega)) ?_)
        dsimp only [pushR]
        refine wp_aload_n dX6_row_33 rfl ?_
        refine wp_getf dX6_row_34 fX6_68 (gs_ne (by omega) h0) rfl ?_
        refine wp_iload_n dX6_row_37 rfl ?_
        refine wp_iload_n dX6_row_38 rfl ?_
        refine wp_isv dX6_row_39 (gs_ne (by omega) hS.2.2) (by decide) (by omega) ?_
        refine wp_iconst dX6_row_40 ?_
        exact wp_iret dX6_row_41 rfl (hQ (by omega) (by omega))
      · refine wp_bipush dX6_row_20 rfl ?_
        exact wp_iret dX6_row_22 rfl (by first | exact hQ0 (by omega) | exact hQ1 (by omega) (by omega))
    · refine wp_iconst dX6_row_14 ?_
      exact wp_iret dX6_row_15 rfl (by first | exact hQ0 (by omega) | exact hQ1 (by omega) (by omega))
def rRef (Z : Int → Int) (d i : Int) : Int := if 0 ≤ d ∧ d ≤ 3 then if Z d = -1 then -11 else if 0 ≤ i ∧ i ≤ Z d - 1 then 0 else -13 else -1
theorem rRef_r (Z : Int → Int) (d i : Int) : r32 (rRef Z d i) := by unfold rRef r32; (repeat' split) <;> omega
set_option maxHeartbeats 1000000 in
theorem C_refusal {d i : Int} (hM : MV h g Kp dn km T ln P PS R Z I ik) (rd : r32 d) (ri : r32 i) (hZ : ∀ j, -1 ≤ Z j ∧ Z j ≤ 40) (hQ : Q (some (vI (rRef Z d i))) h) : Cl X kX7_refusal [vR 51, vI d, vI i] h Q := by
  refine cl_of rfl (Nat.le_of_ble_eq_true rfl) rfl ?_
  obtain ⟨⟨at_, ft, ac, mn, om, fw, mo, un, m51⟩, m52, m53, m54, -, m56, m57, -, -, -, -, -, -, -, -, m67, m68, m69, -⟩ := id hM
  have hR : ∀ j, r32 (Z j) := fun j => by have := hZ j; unfold r32; omega
  have hz := hZ d
  refine wp_iload_n dX7_refusal_0 rfl ?_
  refine wp_is1 dX7_refusal_1 SX7_isShelf lX7_323 (rq0 rfl rfl) (Nat.le_of_ble_eq_true rfl) (C_isShelf (by first | assumption | exact hR _ | exact bI_r _ | (unfold r32; omega)) ?_)
  dsimp only [pushR]
  refine wp_bne 9 dX7_refusal_4 rfl (fun c4 => ?_) (fun c4 => ?_)
  · refine wp_aload_n dX7_refusal_9 rfl ?_
    refine wp_getf dX7_refusal_10 fX7_76 m51 rfl ?_
    refine wp_iload_n dX7_refusal_13 rfl ?_
    refine wp_iav (v := Z d) dX7_refusal_14 m68 (by decide) (by omega) rfl ?_
    refine wp_iconst dX7_refusal_15 ?_
    refine wp_icmp_ne 22 dX7_refusal_16 rfl (by first | assumption | exact hR _ | exact bI_r _ | (unfold r32; omega)) ⟨by omega, by omega⟩ (fun c16 => ?_) (fun c16 => ?_)
    · refine wp_iload_n dX7_refusal_22 rfl ?_
      refine wp_i2l dX7_refusal_23 (by first | assumption | exact hR _ | exact bI_r _ | (unfold r32; omega)) ?_
      refine wp_lconst (z := 0) dX7_refusal_24 rfl ?_
      refine wp_aload_n dX7_refusal_25 rfl ?_
      refine wp_getf dX7_refusal_26 fX7_76 m51 rfl ?_
      refine wp_iload_n dX7_refusal_29 rfl ?_
      refine wp_iav (v := Z d) dX7_refusal_30 m68 (by decide) (by omega) rfl ?_
      refine wp_iconst dX7_refusal_31 ?_
      refine wp_isub dX7_refusal_32 ?_
      refine wp_i2l dX7_refusal_33 (by first | assumption | exact hR _ | exact bI_r _ | (unfold r32; omega)) ?_
      refine wp_is3 dX7_refusal_34 SX7_in lX7_94 (rq0 rfl rfl) (Nat.le_of_ble_eq_true rfl) (C_in (by first | assumption | (unfold r64 r32 at *; omega)) (by first | assumption | (unfold r64 r32 at *; omega)) (by first | assumption | (unfold r64 r32 at *; omega)) ?_)
      dsimp only [pushR]
      refine wp_beq 44 dX7_refusal_37 rfl (fun c37 => ?_) (fun c37 => ?_)
      · refine wp_bipush dX7_refusal_44 rfl ?_
        exact wp_iret dX7_refusal_46 rfl (by unfold rRef at hQ; (repeat' split at hQ) <;> first | (exfalso; omega) | exact hQ)
      · refine wp_iconst dX7_refusal_40 ?_
        refine wp_goto 46 dX7_refusal_41 rfl ?_
        exact wp_iret dX7_refusal_46 rfl (by unfold rRef at hQ; (repeat' split at hQ) <;> first | (exfalso; omega) | exact hQ)
    · refine wp_bipush dX7_refusal_19 rfl ?_
      exact wp_iret dX7_refusal_21 rfl (by unfold rRef at hQ; (repeat' split at hQ) <;> first | (exfalso; omega) | exact hQ)
  · refine wp_iconst dX7_refusal_7 ?_
    exact wp_iret dX7_refusal_8 rfl (by unfold rRef at hQ; (repeat' split at hQ) <;> first | (exfalso; omega) | exact hQ)
set_option maxHeartbeats 1000000 in
theorem C_rput {d i v : Int} (hM : MV h g Kp dn km T ln P PS R Z I ik) (rd : r32 d) (ri : r32 i) (hZ : ∀ j, -1 ≤ Z j ∧ Z j ≤ 40) (hQ0 : rRef Z d i < 0 → Q (some (vI (rRef Z d i))) h) (hQ : ¬ rRef Z d i < 0 → (0 ≤ d ∧ d < 4) ∧ 0 ≤ i ∧ i < Z d → Q (some (vI 1)) (h.set 67 (oL 160 (ud R (40 * d + i) v)))) : Cl X kX7_put [vR 51, vI d, vI i, vL v] h Q := by
  refine cl_of rfl (Nat.le_of_ble_eq_true rfl) rfl ?_
  obtain ⟨⟨at_, ft, ac, mn, om, fw, mo, un, m51⟩, m52, m53, m54, -, m56, m57, -, -, -, -, -, -, -, -, m67, m68, m69, -⟩ := id hM
  have hb : ¬ rRef Z d i < 0 → (0 ≤ d ∧ d < 4) ∧ 0 ≤ i ∧ i < Z d := by unfold rRef; (repeat' split) <;> omega
  have hz := hZ d
  refine wp_aload_n dX7_put_0 rfl ?_
  refine wp_iload_n dX7_put_1 rfl ?_
  refine wp_iload_n dX7_put_2 rfl ?_
  refine wp_iv2 dX7_put_3 VX7_refusal lX7_335 m51 (rq0 rfl rfl) (Nat.le_of_ble_eq_true rfl) (C_refusal hM rd ri hZ ?_)
  dsimp only [pushR]
  refine wp_istore (L' := [some (vR 51), some (vI d), some (vI i), some (vL v), none, some (vI (rRef Z d i))]) dX7_put_6 (by decide) rfl ?_
  refine wp_iload dX7_put_8 rfl ?_
  refine wp_if_ge 16 dX7_put_10 rfl (rRef_r _ _ _) (fun c10 => ?_) (fun c10 => ?_)
  · have hb2 := hb (by omega)
    have hb2 := hb (by omega)
    refine wp_aload_n dX7_put_16 rfl ?_
    refine wp_getf dX7_put_17 fX7_73 m51 rfl ?_
    refine wp_bipush dX7_put_20 rfl ?_
    refine wp_iload_n dX7_put_22 rfl ?_
    refine wp_imul dX7_put_23 ?_
    refine wp_iload_n dX7_put_24 rfl ?_
    refine wp_iadd dX7_put_25 ?_
    refine wp_lload_n dX7_put_26 rfl ?_
    refine wp_lsv dX7_put_27 m67 (by decide) (by omega) ?_
    refine wp_iconst dX7_put_28 ?_
    exact wp_iret dX7_put_29 rfl (hQ (by omega) (by omega))
  · refine wp_iload dX7_put_13 rfl ?_
    exact wp_iret dX7_put_15 rfl (hQ0 (by omega))
set_option maxHeartbeats 1000000 in
theorem C_relement {d i : Int} (hM : MV h g Kp dn km T ln P PS R Z I ik) (rd : r32 d) (ri : r32 i) (hZ : ∀ j, -1 ≤ Z j ∧ Z j ≤ 40) (hQ0 : rRef Z d i < 0 → Q (some (vL (-9223372036854775808))) h) (hQ : ¬ rRef Z d i < 0 → (0 ≤ d ∧ d < 4) ∧ 0 ≤ i ∧ i < Z d → Q (some (vL (R (40 * d + i)))) h) : Cl X kX7_element [vR 51, vI d, vI i] h Q := by
  refine cl_of rfl (Nat.le_of_ble_eq_true rfl) rfl ?_
  obtain ⟨⟨at_, ft, ac, mn, om, fw, mo, un, m51⟩, m52, m53, m54, -, m56, m57, -, -, -, -, -, -, -, -, m67, m68, m69, -⟩ := id hM
  have hb : ¬ rRef Z d i < 0 → (0 ≤ d ∧ d < 4) ∧ 0 ≤ i ∧ i < Z d := by unfold rRef; (repeat' split) <;> omega
  have hz := hZ d
  refine wp_aload_n dX7_element_0 rfl ?_
  refine wp_iload_n dX7_element_1 rfl ?_
  refine wp_iload_n dX7_element_2 rfl ?_
  refine wp_iv2 dX7_element_3 VX7_refusal lX7_335 m51 (rq0 rfl rfl) (Nat.le_of_ble_eq_true rfl) (C_refusal hM rd ri hZ ?_)
  dsimp only [pushR]
  refine wp_if_ge 15 dX7_element_6 rfl (rRef_r _ _ _) (fun c6 => ?_) (fun c6 => ?_)
  · have hb2 := hb (by omega)
    have hb2 := hb (by omega)
    refine wp_aload_n dX7_element_15 rfl ?_
    refine wp_getf dX7_element_16 fX7_73 m51 rfl ?_
    refine wp_bipush dX7_element_19 rfl ?_
    refine wp_iload_n dX7_element_21 rfl ?_
    refine wp_imul dX7_element_22 ?_
    refine wp_iload_n dX7_element_23 rfl ?_
    refine wp_iadd dX7_element_24 ?_
    refine wp_lav (v := R (40 * d + i)) dX7_element_25 m67 (by decide) (by omega) rfl ?_
    exact wp_lret dX7_element_26 rfl (by first | exact hQ0 (by omega) | exact hQ (by omega) (by omega))
  · refine wp_ldc2 dX7_element_9 cX7_340 ?_
    refine wp_goto 26 dX7_element_12 rfl ?_
    exact wp_lret dX7_element_26 rfl (by first | exact hQ0 (by omega) | exact hQ (by omega) (by omega))
/-- the loop of row: places from k on become 0 -/
theorem lp_rrow {d n : Int} {b : Nat × Nat} (hd : 0 ≤ d ∧ d < 4) (hn : 0 ≤ n ∧ n ≤ 40) (m51 : ∃ fs, h[51]? = some (oO 7 fs) ∧ fs[26]? = some (vR 67)) : ∀ (m : Nat) (k : Int) (R : Int → Int), k + m = n → 0 ≤ k → h[67]? = some (oL 160 R) → (∀ R', (∀ j, R' j = if 40 * d + k ≤ j ∧ j < 40 * d + n then 0 else R j) → Q (some (vI 1)) (h.set 67 (oL 160 R'))) → Wp X kX7_row 31 [some (vR 51), some (vI d), some (vI n), some (vI k)] [] h b Q := by
  intro m
  induction m generalizing h with
  | zero =>
    intro k R h1 h2 hp hQ
    refine wp_iload_n dX7_row_31 rfl ?_
    refine wp_iload_n dX7_row_32 rfl ?_
    refine wp_icmp_ge 54 dX7_row_33 rfl (by unfold r32; omega) (by unfold r32; omega) (fun c => ?_) (fun c => absurd (by omega) c)
    have q := hQ R (fun j => by rw [if_neg (by omega)])
    rw [set_same hp] at q
    refine wp_iconst dX7_row_54 ?_
    exact wp_iret dX7_row_55 rfl q
  | succ m ih =>
    intro k R h1 h2 hp hQ
    obtain ⟨fs, f1, f2⟩ := id m51
    refine wp_iload_n dX7_row_31 rfl ?_
    refine wp_iload_n dX7_row_32 rfl ?_
    refine wp_icmp_ge 54 dX7_row_33 rfl (by unfold r32; omega) (by unfold r32; omega) (fun c => absurd c (by omega)) (fun c => ?_)
    refine wp_aload_n dX7_row_36 rfl ?_
    refine wp_getf dX7_row_37 fX7_73 f1 f2 ?_
    refine wp_bipush dX7_row_40 rfl ?_
    refine wp_iload_n dX7_row_42 rfl ?_
    refine wp_imul dX7_row_43 ?_
    refine wp_iload_n dX7_row_44 rfl ?_
    refine wp_iadd dX7_row_45 ?_
    refine wp_lconst (z := 0) dX7_row_46 rfl ?_
    refine wp_lsv dX7_row_47 hp (by decide) (by omega) ?_
    refine wp_iinc (L' := [some (vR 51), some (vI d), some (vI n), some (vI (k + 1))]) dX7_row_48 rfl rfl ?_
    refine wp_goto 31 dX7_row_51 rfl ?_
    refine ih ⟨fs, gs_ne (by decide) f1, f2⟩ (k + 1) (ud R (40 * d + k) 0) (by omega) (by omega) (gs_eq (gs_lt hp)) (fun R' hR' => ?_)
    rw [List.set_set]
    refine hQ R' (fun j => ?_)
    rw [hR' j]
    rcases Decidable.em (j = 40 * d + k) with e | e
    · subst e
      rw [if_neg (by omega), if_pos (by omega), ud_eq]
    · rw [ud_ne e]
      rcases Decidable.em (40 * d + (k + 1) ≤ j ∧ j < 40 * d + n) with e2 | e2
      · rw [if_pos e2, if_pos (by omega)]
      · rw [if_neg e2, if_neg (by omega)]
set_option maxHeartbeats 1000000 in
theorem C_rrow {d n : Int} (hM : MV h g Kp dn km T ln P PS R Z I ik) (rd : r32 d) (rn : r32 n) (hQ0 : ¬ ((0 ≤ d ∧ d ≤ 3) ∧ n ≤ 40) → Q (some (vI (-1))) h) (hQ1 : (0 ≤ d ∧ d ≤ 3) ∧ n ≤ 40 → n < 0 → Q (some (vI (-14))) h) (hQ : (0 ≤ d ∧ d ≤ 3) ∧ n ≤ 40 → ¬ n < 0 → ∀ R', (∀ j, R' j = if 40 * d + 0 ≤ j ∧ j < 40 * d + n then 0 else R j) → Q (some (vI 1)) ((h.set 68 (oI 4 (ud Z d n))).set 67 (oL 160 R'))) : Cl X kX7_row [vR 51, vI d, vI n] h Q := by
  refine cl_of rfl (Nat.le_of_ble_eq_true rfl) rfl ?_
  obtain ⟨⟨at_, ft, ac, mn, om, fw, mo, un, m51⟩, m52, m53, m54, -, m56, m57, -, -, -, -, -, -, -, -, m67, m68, m69, -⟩ := id hM
  refine wp_iload_n dX7_row_0 rfl ?_
  refine wp_is1 dX7_row_1 SX7_isShelf lX7_323 (rq0 rfl rfl) (Nat.le_of_ble_eq_true rfl) (C_isShelf (by first | assumption | exact hR _ | exact bI_r _ | (unfold r32; omega)) ?_)
  dsimp only [pushR]
  refine wp_beq 13 dX7_row_4 rfl (fun c4 => ?_) (fun c4 => ?_)
  · refine wp_iconst dX7_row_13 ?_
    exact wp_iret dX7_row_14 rfl (by first | exact hQ0 (by omega) | exact hQ1 (by omega) (by omega))
  · refine wp_iload_n dX7_row_7 rfl ?_
    refine wp_bipush dX7_row_8 rfl ?_
    refine wp_icmp_le 15 dX7_row_10 rfl (by first | assumption | exact hR _ | exact bI_r _ | (unfold r32; omega)) ⟨by omega, by omega⟩ (fun c10 => ?_) (fun c10 => ?_)
    · refine wp_iload_n dX7_row_15 rfl ?_
      refine wp_if_ge 22 dX7_row_16 rfl (by first | assumption | exact hR _ | exact bI_r _ | (unfold r32; omega)) (fun c16 => ?_) (fun c16 => ?_)
      · refine wp_aload_n dX7_row_22 rfl ?_
        refine wp_getf dX7_row_23 fX7_76 m51 rfl ?_
        refine wp_iload_n dX7_row_26 rfl ?_
        refine wp_iload_n dX7_row_27 rfl ?_
        refine wp_isv dX7_row_28 m68 (by decide) (by omega) ?_
        refine wp_iconst dX7_row_29 ?_
        refine wp_istore_n (L' := [some (vR 51), some (vI d), some (vI n), some (vI 0)]) dX7_row_30 (by decide) rfl ?_
        exact lp_rrow (by omega) (by omega) ⟨_, (gs_ne (by decide) m51), rfl⟩ n.toNat 0 _ (by omega) (by omega) (gs_ne (by decide) m67) (fun R' hR' => hQ (by omega) (by omega) R' hR')
      · refine wp_bipush dX7_row_19 rfl ?_
        exact wp_iret dX7_row_21 rfl (by first | exact hQ0 (by omega) | exact hQ1 (by omega) (by omega))
    · refine wp_iconst dX7_row_13 ?_
      exact wp_iret dX7_row_14 rfl (by first | exact hQ0 (by omega) | exact hQ1 (by omega) (by omega))
end SF
