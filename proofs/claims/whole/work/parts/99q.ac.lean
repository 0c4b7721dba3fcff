/-! reading an act, the class -/
def kdF (c : Int) : Int := if c = 7348 then 0 else if c = 409067 then 1 else if c = 206220 then 2 else if c = 24716933 then 3 else if c = 1589657 then 4 else if c = 664683 then 5 else if c = 114052 then 6 else if c = 755277 then 7 else -1
def loK (k : Int) : Int := if k = 5 then 1 else 0
def hiK (k : Int) : Int := if k = 4 then 2 else if k = 5 then 50 else if k = 6 then 5 else if k = 7 then 5 else 9
theorem kdF_b (c : Int) : -1 ≤ kdF c ∧ kdF c ≤ 7 := by unfold kdF; (repeat' split) <;> omega
theorem kdF_k {k : Nat} {c : Int} (hk : k < 8) (h : c = vb k) : kdF c = k := by
  rcases (by omega : k = 0 ∨ k = 1 ∨ k = 2 ∨ k = 3 ∨ k = 4 ∨ k = 5 ∨ k = 6 ∨ k = 7) with rfl | rfl | rfl | rfl | rfl | rfl | rfl | rfl <;> (subst h; decide)
theorem kdF_n {c : Int} (h : ∀ k : Nat, k < 8 → c ≠ vb k) : kdF c = -1 := by
  have h0 : c ≠ 7348 := h 0 (by omega)
  have h1 : c ≠ 409067 := h 1 (by omega)
  have h2 : c ≠ 206220 := h 2 (by omega)
  have h3 : c ≠ 24716933 := h 3 (by omega)
  have h4 : c ≠ 1589657 := h 4 (by omega)
  have h5 : c ≠ 664683 := h 5 (by omega)
  have h6 : c ≠ 114052 := h 6 (by omega)
  have h7 : c ≠ 755277 := h 7 (by omega)
  unfold kdF
  rw [if_neg h0, if_neg h1, if_neg h2, if_neg h3, if_neg h4, if_neg h5, if_neg h6, if_neg h7]
/-- an act read at i: where the fault is (-1: none), its kind, where it ends, its figures -/
def acS (T : Int → Int) (ln i : Int) : Int × Int × Int × Int × Int :=
  if (kdF (wcd T i (wE T ln i))) = -1 then (i, -1, i, 0, 0)
  else if (kdF (wcd T i (wE T ln i))) = 1 ∨ (kdF (wcd T i (wE T ln i))) = 2 then (-1, (kdF (wcd T i (wE T ln i))), (wE T ln i), 0, 0)
  else if nmOK T ln (wE T ln i) (loK (kdF (wcd T i (wE T ln i)))) (hiK (kdF (wcd T i (wE T ln i)))) then
    if (kdF (wcd T i (wE T ln i))) = 3 then
      if nmOK T ln (nmE T ln (wE T ln i)) 0 999 then (-1, (kdF (wcd T i (wE T ln i))), nmE T ln (nmE T ln (wE T ln i)), nmV T ln (wE T ln i), nmV T ln (nmE T ln (wE T ln i)))
      else (nmX T ln (nmE T ln (wE T ln i)), -1, i, 0, 0)
    else (-1, (kdF (wcd T i (wE T ln i))), nmE T ln (wE T ln i), nmV T ln (wE T ln i), 0)
  else (nmX T ln (wE T ln i), -1, i, 0, 0)
def TPL (h0 h : AH) (ln a : Int) (pp : Nat) (n : Int) (K F S : Int → Int) : Prop := h.length = h0.length ∧ (∀ i, i ≠ 14 → i < pp ∨ pp + 3 < i → h[i]? = h0[i]?) ∧ h[14]? = some (oO 4 [vR 15, vI ln, vI a]) ∧ h[pp]? = some (oO 2 [vR (pp + 1), vR (pp + 2), vR (pp + 3), vI n]) ∧ h[pp + 1]? = some (oI 5 K) ∧ h[pp + 2]? = some (oI 5 F) ∧ h[pp + 3]? = some (oI 5 S)
section AQ
variable {X : XS} {h h0 : AH} {Q : Option AV → AH → Prop} {T K Fs S : Int → Int} {ln i n : Int} {pp : Nat} {b : Nat × Nat}
theorem acS_0 (h : (kdF (wcd T i (wE T ln i))) = -1) : acS T ln i = (i, -1, i, 0, 0) := by unfold acS; rw [if_pos h]
theorem acS_1 (h : (kdF (wcd T i (wE T ln i))) = 1 ∨ (kdF (wcd T i (wE T ln i))) = 2) : acS T ln i = (-1, (kdF (wcd T i (wE T ln i))), (wE T ln i), 0, 0) := by unfold acS; rw [if_neg (by omega), if_pos h]
theorem acS_b (h : 0 ≤ (kdF (wcd T i (wE T ln i)))) (h1 : (kdF (wcd T i (wE T ln i))) ≠ 1) (h2 : (kdF (wcd T i (wE T ln i))) ≠ 2) (hn : ¬ nmOK T ln (wE T ln i) (loK (kdF (wcd T i (wE T ln i)))) (hiK (kdF (wcd T i (wE T ln i))))) : acS T ln i = (nmX T ln (wE T ln i), -1, i, 0, 0) := by
  unfold acS; rw [if_neg (by omega), if_neg (by omega), if_neg hn]
theorem acS_2 (h : 0 ≤ (kdF (wcd T i (wE T ln i)))) (h1 : (kdF (wcd T i (wE T ln i))) ≠ 1) (h2 : (kdF (wcd T i (wE T ln i))) ≠ 2) (h3 : (kdF (wcd T i (wE T ln i))) ≠ 3) (hn : nmOK T ln (wE T ln i) (loK (kdF (wcd T i (wE T ln i)))) (hiK (kdF (wcd T i (wE T ln i))))) : acS T ln i = (-1, (kdF (wcd T i (wE T ln i))), nmE T ln (wE T ln i), nmV T ln (wE T ln i), 0) := by
  unfold acS; rw [if_neg (by omega), if_neg (by omega), if_pos hn, if_neg h3]
theorem acS_3 (h3 : (kdF (wcd T i (wE T ln i))) = 3) (hn : nmOK T ln (wE T ln i) 0 9) (hm : nmOK T ln (nmE T ln (wE T ln i)) 0 999) : acS T ln i = (-1, (kdF (wcd T i (wE T ln i))), nmE T ln (nmE T ln (wE T ln i)), nmV T ln (wE T ln i), nmV T ln (nmE T ln (wE T ln i))) := by
  have hn' : nmOK T ln (wE T ln i) (loK (kdF (wcd T i (wE T ln i)))) (hiK (kdF (wcd T i (wE T ln i)))) := by rw [h3]; exact hn
  unfold acS; rw [if_neg (by omega), if_neg (by omega), if_pos hn', if_pos h3, if_pos hm]
theorem acS_3b (h3 : (kdF (wcd T i (wE T ln i))) = 3) (hn : nmOK T ln (wE T ln i) 0 9) (hm : ¬ nmOK T ln (nmE T ln (wE T ln i)) 0 999) : acS T ln i = (nmX T ln (nmE T ln (wE T ln i)), -1, i, 0, 0) := by
  have hn' : nmOK T ln (wE T ln i) (loK (kdF (wcd T i (wE T ln i)))) (hiK (kdF (wcd T i (wE T ln i)))) := by rw [h3]; exact hn
  unfold acS; rw [if_neg (by omega), if_neg (by omega), if_pos hn', if_pos h3, if_neg hm]
theorem nmX_b {i : Int} (h : 0 ≤ i ∧ i ≤ ln) : 0 ≤ nmX T ln i ∧ nmX T ln i ≤ ln := by unfold nmX; split <;> omega
theorem acS_bd (hi : 0 ≤ i ∧ i ≤ ln ∧ ln ≤ 160) : (-1 ≤ (acS T ln i).1 ∧ (acS T ln i).1 ≤ ln) ∧ ((acS T ln i).1 = -1 → (0 ≤ (acS T ln i).2.1 ∧ (acS T ln i).2.1 ≤ 7) ∧ (i ≤ (acS T ln i).2.2.1 ∧ (acS T ln i).2.2.1 ≤ ln)) := by
  have wb := wE_b (T := T) hi
  have kb := kdF_b (wcd T i (wE T ln i))
  have x1 := nmX_b (T := T) (ln := ln) (i := (wE T ln i)) (by omega)
  unfold acS
  split
  · dsimp only; omega
  · split
    · dsimp only; omega
    · split
      · rename_i hn
        have nb := nm_b (T := T) (ln := ln) hn.1.1
        have x2 := nmX_b (T := T) (ln := ln) (i := nmE T ln (wE T ln i)) (by omega)
        split
        · split
          · rename_i hm
            have nb2 := nm_b (T := T) (ln := ln) hm.1.1
            dsimp only; omega
          · dsimp only; omega
        · dsimp only; omega
      · dsimp only; omega
theorem C_mostOf {k : Int} (hk : 0 ≤ k ∧ k < 8) (hQ : Q (some (vI (hiK k))) h) : Cl X kX4_mostOf [vI k] h Q := by
  refine cl_of rfl (Nat.le_of_ble_eq_true rfl) rfl ?_
  refine wp_iload_n dX4_mostOf_0 rfl ?_
  rcases Decidable.em (k = 4) with e1_0 | e1_0
  · refine wp_tableIn (off := 31) 32 dX4_mostOf_1 (by unfold r32; omega) (by omega) (by omega) (by rw [e1_0]; rfl) rfl ?_
    refine wp_iconst dX4_mostOf_32 ?_
    exact wp_iret dX4_mostOf_33 rfl (by unfold hiK at hQ; (repeat' split at hQ) <;> first | (exfalso; omega) | exact hQ)
  rcases Decidable.em (k = 5) with e1_1 | e1_1
  · refine wp_tableIn (off := 33) 34 dX4_mostOf_1 (by unfold r32; omega) (by omega) (by omega) (by rw [e1_1]; rfl) rfl ?_
    refine wp_bipush dX4_mostOf_34 rfl ?_
    exact wp_iret dX4_mostOf_36 rfl (by unfold hiK at hQ; (repeat' split at hQ) <;> first | (exfalso; omega) | exact hQ)
  rcases Decidable.em (k = 6) with e1_2 | e1_2
  · refine wp_tableIn (off := 36) 37 dX4_mostOf_1 (by unfold r32; omega) (by omega) (by omega) (by rw [e1_2]; rfl) rfl ?_
    refine wp_iconst dX4_mostOf_37 ?_
    exact wp_iret dX4_mostOf_38 rfl (by unfold hiK at hQ; (repeat' split at hQ) <;> first | (exfalso; omega) | exact hQ)
  rcases Decidable.em (k = 7) with e1_3 | e1_3
  · refine wp_tableIn (off := 36) 37 dX4_mostOf_1 (by unfold r32; omega) (by omega) (by omega) (by rw [e1_3]; rfl) rfl ?_
    refine wp_iconst dX4_mostOf_37 ?_
    exact wp_iret dX4_mostOf_38 rfl (by unfold hiK at hQ; (repeat' split at hQ) <;> first | (exfalso; omega) | exact hQ)
  refine wp_tableOut 39 dX4_mostOf_1 (by unfold r32; omega) (by omega) rfl ?_
  refine wp_bipush dX4_mostOf_39 rfl ?_
  exact wp_iret dX4_mostOf_41 rfl (by unfold hiK at hQ; (repeat' split at hQ) <;> first | (exfalso; omega) | exact hQ)
theorem C_add {k f s : Int} (ht : TPL h0 h ln i pp n K Fs S) (hpp : 15 ≤ pp) (hn : 0 ≤ n ∧ n < 5) (hQ : ∀ h', TPL h0 h' ln i pp (n + 1) (ud K n k) (ud Fs n f) (ud S n s) → Q none h') : Cl X kX2_add [vR pp, vI k, vI f, vI s] h Q := by
  refine cl_of rfl (Nat.le_of_ble_eq_true rfl) rfl ?_
  obtain ⟨t1, t2, t14, tp, tK, tF, tS⟩ := ht
  refine wp_aload_n dX2_add_0 rfl ?_
  refine wp_getf dX2_add_1 fX2_21 tp rfl ?_
  refine wp_iconst dX2_add_4 ?_
  refine wp_icmp_ge 48 dX2_add_5 rfl (by unfold r32; omega) ⟨by omega, by omega⟩ (fun c5 => ?_) (fun c5 => ?_)
  · exact wp_ret dX2_add_48 rfl (False.elim (by omega))
  · refine wp_aload_n dX2_add_8 rfl ?_
    refine wp_getf dX2_add_9 fX2_9 tp rfl ?_
    refine wp_aload_n dX2_add_12 rfl ?_
    refine wp_getf dX2_add_13 fX2_21 tp rfl ?_
    refine wp_iload_n dX2_add_16 rfl ?_
    refine wp_isv dX2_add_17 tK (by decide) (by omega) ?_
    refine wp_aload_n dX2_add_18 rfl ?_
    refine wp_getf dX2_add_19 fX2_15 (gs_ne (by omega) tp) rfl ?_
    refine wp_aload_n dX2_add_22 rfl ?_
    refine wp_getf dX2_add_23 fX2_21 (gs_ne (by omega) tp) rfl ?_
    refine wp_iload_n dX2_add_26 rfl ?_
    refine wp_isv dX2_add_27 (gs_ne (by omega) tF) (by decide) (by omega) ?_
    refine wp_aload_n dX2_add_28 rfl ?_
    refine wp_getf dX2_add_29 fX2_18 (gs_ne (by omega) (gs_ne (by omega) tp)) rfl ?_
    refine wp_aload_n dX2_add_32 rfl ?_
    refine wp_getf dX2_add_33 fX2_21 (gs_ne (by omega) (gs_ne (by omega) tp)) rfl ?_
    refine wp_iload_n dX2_add_36 rfl ?_
    refine wp_isv dX2_add_37 (gs_ne (by omega) (gs_ne (by omega) tS)) (by decide) (by omega) ?_
    refine wp_aload_n dX2_add_38 rfl ?_
    refine wp_dup dX2_add_39 rfl ?_
    refine wp_getf dX2_add_40 fX2_21 (gs_ne (by omega) (gs_ne (by omega) (gs_ne (by omega) tp))) rfl ?_
    refine wp_iconst dX2_add_43 ?_
    refine wp_iadd dX2_add_44 ?_
    refine wp_putv (fs' := [vR (pp + 1), vR (pp + 2), vR (pp + 3), vI (n + 1)]) dX2_add_45 (pX2_21 rfl) (gs_ne (by omega) (gs_ne (by omega) (gs_ne (by omega) tp))) (Nat.le_of_ble_eq_true rfl) (fitF_int _) rfl ?_
    exact wp_ret dX2_add_48 rfl (hQ _ ⟨by simp only [List.length_set]; exact t1, fun j h14 hj => by rw [List.getElem?_set_ne (by omega), List.getElem?_set_ne (by omega), List.getElem?_set_ne (by omega), List.getElem?_set_ne (by omega)]; exact t2 j h14 hj, (gs_ne (by omega) (gs_ne (by omega) (gs_ne (by omega) (gs_ne (by omega) t14)))), (gs_eq (gs_l (gs_l (gs_l (gs_lt tp))))), (gs_ne (by omega) (gs_ne (by omega) (gs_ne (by omega) (gs_eq (gs_lt tK))))), (gs_ne (by omega) (gs_ne (by omega) (gs_eq (gs_l (gs_lt tF))))), (gs_ne (by omega) (gs_eq (gs_l (gs_l (gs_lt tS)))))⟩)
theorem TPL.a {a e : Int} (ht : TPL h0 h ln a pp n K Fs S) (hpp : 15 ≤ pp) : TPL h0 (h.set 14 (oO 4 [vR 15, vI ln, vI e])) ln e pp n K Fs S := by
  obtain ⟨t1, t2, t14, tp, tK, tF, tS⟩ := ht
  exact ⟨by rw [List.length_set]; exact t1, fun j h14 hj => by rw [List.getElem?_set_ne (by omega)]; exact t2 j h14 hj, gs_eq (gs_lt t14), gs_ne (by omega) tp, gs_ne (by omega) tK, gs_ne (by omega) tF, gs_ne (by omega) tS⟩
set_option maxHeartbeats 2000000 in
theorem C_readAct (ht : TPL h0 h ln i pp n K Fs S) (hpp : 16 ≤ pp) (h15 : h0[15]? = some (oI 160 T)) (hT : ∀ j, 0 ≤ T j ∧ T j < 256) (hi : 0 ≤ i ∧ i ≤ ln ∧ ln ≤ 160) (hn : 0 ≤ n ∧ n < 5) (hQ1 : (acS T ln i).1 = -1 → ∀ h', TPL h0 h' ln (acS T ln i).2.2.1 pp (n + 1) (ud K n (acS T ln i).2.1) (ud Fs n (acS T ln i).2.2.2.1) (ud S n (acS T ln i).2.2.2.2) → Q (some (vI 1)) h') (hQ0 : 0 ≤ (acS T ln i).1 → ∀ h', TPL h0 h' ln (acS T ln i).1 pp n K Fs S → Q (some (vI 0)) h') : Cl X kX4_readAct [vR 14, vR pp] h Q := by
  refine cl_of rfl (Nat.le_of_ble_eq_true rfl) rfl ?_
  have t15 : h[15]? = some (oI 160 T) := (ht.2.1 15 (by decide) (by omega)).trans h15
  have t14 := ht.2.2.1
  have hR : ∀ j, r32 (T j) := fun j => by have := hT j; unfold r32; omega
  have wb := wE_b (T := T) hi
  have hlet : ∀ j, i ≤ j → j < (wE T ln i) → 97 ≤ T j ∧ T j ≤ 122 := fun j q1 q2 => weL_let (ln - i).toNat i j q1 q2
  refine wp_aload_n dX4_readAct_0 rfl ?_
  refine wp_iv0 dX4_readAct_1 VX4_readWord lX4_31 t14 (rq0 rfl rfl) (Nat.le_of_ble_eq_true rfl) (C_readWord t14 t15 hi hR (fun k hk st => ?_) (fun nst => ?_))
  · dsimp only [pushR]
    have ek : (kdF (wcd T i (wE T ln i))) = (k : Int) := kdF_k hk ((std_code wb.1 hlet hk).mpr st)
    have kz : (0 : Int) ≤ k ∧ (k : Int) < 8 := by omega
    have hiz : r32 (hiK (k : Int)) := by unfold hiK r32; (repeat' split) <;> omega
    refine wp_istore_n (L' := [some (vR 14), some (vR pp), some (vI (k : Int)), none, none]) dX4_readAct_4 (by decide) rfl ?_
    refine wp_iload_n dX4_readAct_5 rfl ?_
    refine wp_if_ge 11 dX4_readAct_6 rfl (by first | assumption | (unfold r32; omega)) (fun c6 => ?_) (fun c6 => ?_)
    · refine wp_iconst dX4_readAct_11 ?_
      refine wp_istore_n (L' := [some (vR 14), some (vR pp), some (vI (k : Int)), some (vI 0), none]) dX4_readAct_12 (by decide) rfl ?_
      refine wp_iconst dX4_readAct_13 ?_
      refine wp_istore (L' := [some (vR 14), some (vR pp), some (vI (k : Int)), some (vI 0), some (vI 0)]) dX4_readAct_14 (by decide) rfl ?_
      refine wp_iload_n dX4_readAct_16 rfl ?_
      refine wp_iconst dX4_readAct_17 ?_
      refine wp_icmp_eq 45 dX4_readAct_18 rfl (by first | assumption | (unfold r32; omega)) ⟨by omega, by omega⟩ (fun c18 => ?_) (fun c18 => ?_)
      · refine wp_iload_n dX4_readAct_45 rfl ?_
        refine wp_iconst dX4_readAct_46 ?_
        refine wp_icmp_ne 64 dX4_readAct_47 rfl (by first | assumption | (unfold r32; omega)) ⟨by omega, by omega⟩ (fun c47 => ?_) (fun c47 => ?_)
        · refine wp_iload_n dX4_readAct_64 rfl ?_
          refine wp_if_lt 73 dX4_readAct_65 rfl ⟨by omega, by omega⟩ (fun c65 => absurd c65 (by omega)) (fun c65 => ?_)
          refine wp_iload dX4_readAct_68 rfl ?_
          refine wp_if_ge 75 dX4_readAct_70 rfl ⟨by omega, by omega⟩ (fun c70 => ?_) (fun c70 => absurd c70 (by omega))
          refine wp_aload_n dX4_readAct_75 rfl ?_
          refine wp_iload_n dX4_readAct_76 rfl ?_
          refine wp_iload_n dX4_readAct_77 rfl ?_
          refine wp_iload dX4_readAct_78 rfl ?_
          have ea : acS T ln i = (-1, (kdF (wcd T i (wE T ln i))), wE T ln i, 0, 0) := by
            first | (exfalso; omega) | exact acS_1 (by omega) | exact acS_3 (by omega) (by rw [show (9 : Int) = hiK (k : Int) by rw [show (k : Int) = 3 by omega]; rfl]; exact ok1) ok2 | exact acS_2 (by omega) (by omega) (by omega) (by omega) (by rw [ek]; (first | exact ok1 | (rw [show loK (k : Int) = 0 from if_neg (by omega)]; exact ok1) | (rw [show loK (k : Int) = 1 from if_pos (by omega)]; exact ok1)))
          rw [ea] at hQ1
          dsimp only at hQ1
          have tt := TPL.a (e := wE T ln i) ht (by omega)
          refine wp_iv3 dX4_readAct_80 VX2_add lX4_43 tt.2.2.2.1 (rq0 rfl rfl) (Nat.le_of_ble_eq_true rfl) (C_add tt (by omega) hn (fun h1 t1 => ?_))
          dsimp only [pushR]
          rw [← ek] at t1
          refine wp_iconst dX4_readAct_83 ?_
          exact wp_zret dX4_readAct_84 rfl (Or.inr rfl) (hQ1 rfl _ t1)
        · refine wp_iload_n dX4_readAct_50 rfl ?_
          refine wp_if_lt 64 dX4_readAct_51 rfl ⟨by omega, by omega⟩ (fun c51 => absurd c51 (by omega)) (fun c51 => ?_)
          refine wp_aload_n dX4_readAct_54 rfl ?_
          refine wp_iconst dX4_readAct_55 ?_
          refine wp_sipush dX4_readAct_56 rfl ?_
          refine wp_iv2 dX4_readAct_59 VX4_readNumber lX4_39 (gs_eq (gs_lt t14)) (rq0 rfl rfl) (Nat.le_of_ble_eq_true rfl) (C_readNumber t14 t15 hT hi.2.2 (by omega) (by first | assumption | (unfold r32; omega)) (by first | assumption | (unfold r32; omega)) (fun ok1 => ?_) (fun ok1 => ?_))
          · dsimp only [pushR]
            have nok1 := nm_b (T := T) (ln := ln) (i := wE T ln i) ok1.1.1
            refine wp_istore (L' := [some (vR 14), some (vR pp), some (vI (k : Int)), some (vI 0), some (vI (nmV T ln (wE T ln i)))]) dX4_readAct_62 (by decide) rfl ?_
            refine wp_iload_n dX4_readAct_64 rfl ?_
            refine wp_if_lt 73 dX4_readAct_65 rfl ⟨by omega, by omega⟩ (fun c65 => absurd c65 (by omega)) (fun c65 => ?_)
            refine wp_iload dX4_readAct_68 rfl ?_
            refine wp_if_ge 75 dX4_readAct_70 rfl (by first | assumption | (unfold r32; omega)) (fun c70 => ?_) (fun c70 => ?_)
            · refine wp_aload_n dX4_readAct_75 rfl ?_
              refine wp_iload_n dX4_readAct_76 rfl ?_
              refine wp_iload_n dX4_readAct_77 rfl ?_
              refine wp_iload dX4_readAct_78 rfl ?_
              have ea : acS T ln i = (-1, (kdF (wcd T i (wE T ln i))), nmE T ln (wE T ln i), 0, (nmV T ln (wE T ln i))) := by
                first | (exfalso; omega) | exact acS_1 (by omega) | exact acS_3 (by omega) (by rw [show (9 : Int) = hiK (k : Int) by rw [show (k : Int) = 3 by omega]; rfl]; exact ok1) ok2 | exact acS_2 (by omega) (by omega) (by omega) (by omega) (by rw [ek]; (first | exact ok1 | (rw [show loK (k : Int) = 0 from if_neg (by omega)]; exact ok1) | (rw [show loK (k : Int) = 1 from if_pos (by omega)]; exact ok1)))
              rw [ea] at hQ1
              dsimp only at hQ1
              have tt := TPL.a (e := nmE T ln (wE T ln i)) ht (by omega)
              refine wp_iv3 dX4_readAct_80 VX2_add lX4_43 tt.2.2.2.1 (rq0 rfl rfl) (Nat.le_of_ble_eq_true rfl) (C_add tt (by omega) hn (fun h1 t1 => ?_))
              dsimp only [pushR]
              rw [← ek] at t1
              refine wp_iconst dX4_readAct_83 ?_
              exact wp_zret dX4_readAct_84 rfl (Or.inr rfl) (hQ1 rfl _ t1)
            · refine wp_iconst dX4_readAct_73 ?_
              exact wp_zret dX4_readAct_74 rfl (Or.inl rfl) (False.elim (by omega))
          · dsimp only [pushR]
            refine wp_istore (L' := [some (vR 14), some (vR pp), some (vI (k : Int)), some (vI 0), some (vI (-1))]) dX4_readAct_62 (by decide) rfl ?_
            refine wp_iload_n dX4_readAct_64 rfl ?_
            refine wp_if_lt 73 dX4_readAct_65 rfl ⟨by omega, by omega⟩ (fun c65 => absurd c65 (by omega)) (fun c65 => ?_)
            refine wp_iload dX4_readAct_68 rfl ?_
            refine wp_if_ge 75 dX4_readAct_70 rfl ⟨by omega, by omega⟩ (fun c70 => absurd c70 (by omega)) (fun c70 => ?_)
            refine wp_iconst dX4_readAct_73 ?_
            exact wp_zret dX4_readAct_74 rfl (Or.inl rfl) (by
                have ea : acS T ln i = (nmX T ln (wE T ln i), -1, i, 0, 0) := by first | (exfalso; omega) | exact acS_0 ek | exact acS_3b (by omega) (by rw [show (9 : Int) = hiK (k : Int) by rw [show (k : Int) = 3 by omega]; rfl]; exact ok1) ok2 | exact acS_b (by omega) (by omega) (by omega) (by rw [ek]; (first | (rw [show loK (k : Int) = 0 from if_neg (by omega)]; exact ok1) | (rw [show loK (k : Int) = 1 from if_pos (by omega)]; exact ok1)))
                have xb := acS_bd (T := T) hi
                rw [ea] at hQ0 xb
                dsimp only at hQ0 xb
                exact hQ0 (by have := nmX_b (T := T) (ln := ln) (i := (wE T ln i)) (by omega); omega) _ (TPL.a ht (by omega)))
      · refine wp_iload_n dX4_readAct_21 rfl ?_
        refine wp_iconst dX4_readAct_22 ?_
        refine wp_icmp_eq 45 dX4_readAct_23 rfl (by first | assumption | (unfold r32; omega)) ⟨by omega, by omega⟩ (fun c23 => ?_) (fun c23 => ?_)
        · refine wp_iload_n dX4_readAct_45 rfl ?_
          refine wp_iconst dX4_readAct_46 ?_
          refine wp_icmp_ne 64 dX4_readAct_47 rfl (by first | assumption | (unfold r32; omega)) ⟨by omega, by omega⟩ (fun c47 => ?_) (fun c47 => ?_)
          · refine wp_iload_n dX4_readAct_64 rfl ?_
            refine wp_if_lt 73 dX4_readAct_65 rfl ⟨by omega, by omega⟩ (fun c65 => absurd c65 (by omega)) (fun c65 => ?_)
            refine wp_iload dX4_readAct_68 rfl ?_
            refine wp_if_ge 75 dX4_readAct_70 rfl ⟨by omega, by omega⟩ (fun c70 => ?_) (fun c70 => absurd c70 (by omega))
            refine wp_aload_n dX4_readAct_75 rfl ?_
            refine wp_iload_n dX4_readAct_76 rfl ?_
            refine wp_iload_n dX4_readAct_77 rfl ?_
            refine wp_iload dX4_readAct_78 rfl ?_
            have ea : acS T ln i = (-1, (kdF (wcd T i (wE T ln i))), wE T ln i, 0, 0) := by
              first | (exfalso; omega) | exact acS_1 (by omega) | exact acS_3 (by omega) (by rw [show (9 : Int) = hiK (k : Int) by rw [show (k : Int) = 3 by omega]; rfl]; exact ok1) ok2 | exact acS_2 (by omega) (by omega) (by omega) (by omega) (by rw [ek]; (first | exact ok1 | (rw [show loK (k : Int) = 0 from if_neg (by omega)]; exact ok1) | (rw [show loK (k : Int) = 1 from if_pos (by omega)]; exact ok1)))
            rw [ea] at hQ1
            dsimp only at hQ1
            have tt := TPL.a (e := wE T ln i) ht (by omega)
            refine wp_iv3 dX4_readAct_80 VX2_add lX4_43 tt.2.2.2.1 (rq0 rfl rfl) (Nat.le_of_ble_eq_true rfl) (C_add tt (by omega) hn (fun h1 t1 => ?_))
            dsimp only [pushR]
            rw [← ek] at t1
            refine wp_iconst dX4_readAct_83 ?_
            exact wp_zret dX4_readAct_84 rfl (Or.inr rfl) (hQ1 rfl _ t1)
          · refine wp_iload_n dX4_readAct_50 rfl ?_
            refine wp_if_lt 64 dX4_readAct_51 rfl ⟨by omega, by omega⟩ (fun c51 => absurd c51 (by omega)) (fun c51 => ?_)
            refine wp_aload_n dX4_readAct_54 rfl ?_
            refine wp_iconst dX4_readAct_55 ?_
            refine wp_sipush dX4_readAct_56 rfl ?_
            refine wp_iv2 dX4_readAct_59 VX4_readNumber lX4_39 (gs_eq (gs_lt t14)) (rq0 rfl rfl) (Nat.le_of_ble_eq_true rfl) (C_readNumber t14 t15 hT hi.2.2 (by omega) (by first | assumption | (unfold r32; omega)) (by first | assumption | (unfold r32; omega)) (fun ok1 => ?_) (fun ok1 => ?_))
            · dsimp only [pushR]
              have nok1 := nm_b (T := T) (ln := ln) (i := wE T ln i) ok1.1.1
              refine wp_istore (L' := [some (vR 14), some (vR pp), some (vI (k : Int)), some (vI 0), some (vI (nmV T ln (wE T ln i)))]) dX4_readAct_62 (by decide) rfl ?_
              refine wp_iload_n dX4_readAct_64 rfl ?_
              refine wp_if_lt 73 dX4_readAct_65 rfl ⟨by omega, by omega⟩ (fun c65 => absurd c65 (by omega)) (fun c65 => ?_)
              refine wp_iload dX4_readAct_68 rfl ?_
              refine wp_if_ge 75 dX4_readAct_70 rfl (by first | assumption | (unfold r32; omega)) (fun c70 => ?_) (fun c70 => ?_)
              · refine wp_aload_n dX4_readAct_75 rfl ?_
                refine wp_iload_n dX4_readAct_76 rfl ?_
                refine wp_iload_n dX4_readAct_77 rfl ?_
                refine wp_iload dX4_readAct_78 rfl ?_
                have ea : acS T ln i = (-1, (kdF (wcd T i (wE T ln i))), nmE T ln (wE T ln i), 0, (nmV T ln (wE T ln i))) := by
                  first | (exfalso; omega) | exact acS_1 (by omega) | exact acS_3 (by omega) (by rw [show (9 : Int) = hiK (k : Int) by rw [show (k : Int) = 3 by omega]; rfl]; exact ok1) ok2 | exact acS_2 (by omega) (by omega) (by omega) (by omega) (by rw [ek]; (first | exact ok1 | (rw [show loK (k : Int) = 0 from if_neg (by omega)]; exact ok1) | (rw [show loK (k : Int) = 1 from if_pos (by omega)]; exact ok1)))
                rw [ea] at hQ1
                dsimp only at hQ1
                have tt := TPL.a (e := nmE T ln (wE T ln i)) ht (by omega)
                refine wp_iv3 dX4_readAct_80 VX2_add lX4_43 tt.2.2.2.1 (rq0 rfl rfl) (Nat.le_of_ble_eq_true rfl) (C_add tt (by omega) hn (fun h1 t1 => ?_))
                dsimp only [pushR]
                rw [← ek] at t1
                refine wp_iconst dX4_readAct_83 ?_
                exact wp_zret dX4_readAct_84 rfl (Or.inr rfl) (hQ1 rfl _ t1)
              · refine wp_iconst dX4_readAct_73 ?_
                exact wp_zret dX4_readAct_74 rfl (Or.inl rfl) (False.elim (by omega))
            · dsimp only [pushR]
              refine wp_istore (L' := [some (vR 14), some (vR pp), some (vI (k : Int)), some (vI 0), some (vI (-1))]) dX4_readAct_62 (by decide) rfl ?_
              refine wp_iload_n dX4_readAct_64 rfl ?_
              refine wp_if_lt 73 dX4_readAct_65 rfl ⟨by omega, by omega⟩ (fun c65 => absurd c65 (by omega)) (fun c65 => ?_)
              refine wp_iload dX4_readAct_68 rfl ?_
              refine wp_if_ge 75 dX4_readAct_70 rfl ⟨by omega, by omega⟩ (fun c70 => absurd c70 (by omega)) (fun c70 => ?_)
              refine wp_iconst dX4_readAct_73 ?_
              exact wp_zret dX4_readAct_74 rfl (Or.inl rfl) (by
                  have ea : acS T ln i = (nmX T ln (wE T ln i), -1, i, 0, 0) := by first | (exfalso; omega) | exact acS_0 ek | exact acS_3b (by omega) (by rw [show (9 : Int) = hiK (k : Int) by rw [show (k : Int) = 3 by omega]; rfl]; exact ok1) ok2 | exact acS_b (by omega) (by omega) (by omega) (by rw [ek]; (first | (rw [show loK (k : Int) = 0 from if_neg (by omega)]; exact ok1) | (rw [show loK (k : Int) = 1 from if_pos (by omega)]; exact ok1)))
                  have xb := acS_bd (T := T) hi
                  rw [ea] at hQ0 xb
                  dsimp only at hQ0 xb
                  exact hQ0 (by have := nmX_b (T := T) (ln := ln) (i := (wE T ln i)) (by omega); omega) _ (TPL.a ht (by omega)))
        · refine wp_aload_n dX4_readAct_26 rfl ?_
          refine wp_iload_n dX4_readAct_27 rfl ?_
          refine wp_iconst dX4_readAct_28 ?_
          refine wp_icmp_ne 36 dX4_readAct_29 rfl (by first | assumption | (unfold r32; omega)) ⟨by omega, by omega⟩ (fun c29 => ?_) (fun c29 => ?_)
          · refine wp_iconst dX4_readAct_36 ?_
            refine wp_iload_n dX4_readAct_37 rfl ?_
            refine wp_is1 dX4_readAct_38 SX4_mostOf lX4_35 (rq0 rfl rfl) (Nat.le_of_ble_eq_true rfl) (C_mostOf kz ?_)
            dsimp only [pushR]
            refine wp_iv2 dX4_readAct_41 VX4_readNumber lX4_39 (gs_eq (gs_lt t14)) (rq0 rfl rfl) (Nat.le_of_ble_eq_true rfl) (C_readNumber t14 t15 hT hi.2.2 (by omega) (by first | assumption | (unfold r32; omega)) (by first | assumption | (unfold r32; omega)) (fun ok1 => ?_) (fun ok1 => ?_))
            · dsimp only [pushR]
              have nok1 := nm_b (T := T) (ln := ln) (i := wE T ln i) ok1.1.1
              refine wp_istore_n (L' := [some (vR 14), some (vR pp), some (vI (k : Int)), some (vI (nmV T ln (wE T ln i))), some (vI 0)]) dX4_readAct_44 (by decide) rfl ?_
              refine wp_iload_n dX4_readAct_45 rfl ?_
              refine wp_iconst dX4_readAct_46 ?_
              refine wp_icmp_ne 64 dX4_readAct_47 rfl (by first | assumption | (unfold r32; omega)) ⟨by omega, by omega⟩ (fun c47 => ?_) (fun c47 => ?_)
              · refine wp_iload_n dX4_readAct_64 rfl ?_
                refine wp_if_lt 73 dX4_readAct_65 rfl (by first | assumption | (unfold r32; omega)) (fun c65 => ?_) (fun c65 => ?_)
                · refine wp_iconst dX4_readAct_73 ?_
                  exact wp_zret dX4_readAct_74 rfl (Or.inl rfl) (False.elim (by omega))
                · refine wp_iload dX4_readAct_68 rfl ?_
                  refine wp_if_ge 75 dX4_readAct_70 rfl ⟨by omega, by omega⟩ (fun c70 => ?_) (fun c70 => absurd c70 (by omega))
                  refine wp_aload_n dX4_readAct_75 rfl ?_
                  refine wp_iload_n dX4_readAct_76 rfl ?_
                  refine wp_iload_n dX4_readAct_77 rfl ?_
                  refine wp_iload dX4_readAct_78 rfl ?_
                  have ea : acS T ln i = (-1, (kdF (wcd T i (wE T ln i))), nmE T ln (wE T ln i), (nmV T ln (wE T ln i)), 0) := by
                    first | (exfalso; omega) | exact acS_1 (by omega) | exact acS_3 (by omega) (by rw [show (9 : Int) = hiK (k : Int) by rw [show (k : Int) = 3 by omega]; rfl]; exact ok1) ok2 | exact acS_2 (by omega) (by omega) (by omega) (by omega) (by rw [ek]; (first | exact ok1 | (rw [show loK (k : Int) = 0 from if_neg (by omega)]; exact ok1) | (rw [show loK (k : Int) = 1 from if_pos (by omega)]; exact ok1)))
                  rw [ea] at hQ1
                  dsimp only at hQ1
                  have tt := TPL.a (e := nmE T ln (wE T ln i)) ht (by omega)
                  refine wp_iv3 dX4_readAct_80 VX2_add lX4_43 tt.2.2.2.1 (rq0 rfl rfl) (Nat.le_of_ble_eq_true rfl) (C_add tt (by omega) hn (fun h1 t1 => ?_))
                  dsimp only [pushR]
                  rw [← ek] at t1
                  refine wp_iconst dX4_readAct_83 ?_
                  exact wp_zret dX4_readAct_84 rfl (Or.inr rfl) (hQ1 rfl _ t1)
              · refine wp_iload_n dX4_readAct_50 rfl ?_
                refine wp_if_lt 64 dX4_readAct_51 rfl (by first | assumption | (unfold r32; omega)) (fun c51 => ?_) (fun c51 => ?_)
                · refine wp_iload_n dX4_readAct_64 rfl ?_
                  refine wp_if_lt 73 dX4_readAct_65 rfl (by first | assumption | (unfold r32; omega)) (fun c65 => ?_) (fun c65 => ?_)
                  · refine wp_iconst dX4_readAct_73 ?_
                    exact wp_zret dX4_readAct_74 rfl (Or.inl rfl) (False.elim (by omega))
                  · refine wp_iload dX4_readAct_68 rfl ?_
                    refine wp_if_ge 75 dX4_readAct_70 rfl ⟨by omega, by omega⟩ (fun c70 => ?_) (fun c70 => absurd c70 (by omega))
                    refine wp_aload_n dX4_readAct_75 rfl ?_
                    refine wp_iload_n dX4_readAct_76 rfl ?_
                    refine wp_iload_n dX4_readAct_77 rfl ?_
                    refine wp_iload dX4_readAct_78 rfl ?_
                    have ea : acS T ln i = (-1, (kdF (wcd T i (wE T ln i))), nmE T ln (wE T ln i), (nmV T ln (wE T ln i)), 0) := by
                      first | (exfalso; omega) | exact acS_1 (by omega) | exact acS_3 (by omega) (by rw [show (9 : Int) = hiK (k : Int) by rw [show (k : Int) = 3 by omega]; rfl]; exact ok1) ok2 | exact acS_2 (by omega) (by omega) (by omega) (by omega) (by rw [ek]; (first | exact ok1 | (rw [show loK (k : Int) = 0 from if_neg (by omega)]; exact ok1) | (rw [show loK (k : Int) = 1 from if_pos (by omega)]; exact ok1)))
                    rw [ea] at hQ1
                    dsimp only at hQ1
                    have tt := TPL.a (e := nmE T ln (wE T ln i)) ht (by omega)
                    refine wp_iv3 dX4_readAct_80 VX2_add lX4_43 tt.2.2.2.1 (rq0 rfl rfl) (Nat.le_of_ble_eq_true rfl) (C_add tt (by omega) hn (fun h1 t1 => ?_))
                    dsimp only [pushR]
                    rw [← ek] at t1
                    refine wp_iconst dX4_readAct_83 ?_
                    exact wp_zret dX4_readAct_84 rfl (Or.inr rfl) (hQ1 rfl _ t1)
                · refine wp_aload_n dX4_readAct_54 rfl ?_
                  refine wp_iconst dX4_readAct_55 ?_
                  refine wp_sipush dX4_readAct_56 rfl ?_
                  refine wp_iv2 dX4_readAct_59 VX4_readNumber lX4_39 (gs_eq (gs_lt t14)) (rq0 rfl rfl) (Nat.le_of_ble_eq_true rfl) (C_readNumber t14 t15 hT hi.2.2 (by omega) (by first | assumption | (unfold r32; omega)) (by first | assumption | (unfold r32; omega)) (fun ok2 => ?_) (fun ok2 => ?_))
                  · dsimp only [pushR]
                    have nok2 := nm_b (T := T) (ln := ln) (i := nmE T ln (wE T ln i)) ok2.1.1
                    refine wp_istore (L' := [some (vR 14), some (vR pp), some (vI (k : Int)), some (vI (nmV T ln (wE T ln i))), some (vI (nmV T ln (nmE T ln (wE T ln i))))]) dX4_readAct_62 (by decide) rfl ?_
                    refine wp_iload_n dX4_readAct_64 rfl ?_
                    refine wp_if_lt 73 dX4_readAct_65 rfl (by first | assumption | (unfold r32; omega)) (fun c65 => ?_) (fun c65 => ?_)
                    · refine wp_iconst dX4_readAct_73 ?_
                      exact wp_zret dX4_readAct_74 rfl (Or.inl rfl) (False.elim (by omega))
                    · refine wp_iload dX4_readAct_68 rfl ?_
                      refine wp_if_ge 75 dX4_readAct_70 rfl (by first | assumption | (unfold r32; omega)) (fun c70 => ?_) (fun c70 => ?_)
                      · refine wp_aload_n dX4_readAct_75 rfl ?_
                        refine wp_iload_n dX4_readAct_76 rfl ?_
                        refine wp_iload_n dX4_readAct_77 rfl ?_
                        refine wp_iload dX4_readAct_78 rfl ?_
                        have ea : acS T ln i = (-1, (kdF (wcd T i (wE T ln i))), nmE T ln (nmE T ln (wE T ln i)), (nmV T ln (wE T ln i)), (nmV T ln (nmE T ln (wE T ln i)))) := by
                          first | (exfalso; omega) | exact acS_1 (by omega) | exact acS_3 (by omega) (by rw [show (9 : Int) = hiK (k : Int) by rw [show (k : Int) = 3 by omega]; rfl]; exact ok1) ok2 | exact acS_2 (by omega) (by omega) (by omega) (by omega) (by rw [ek]; (first | exact ok1 | (rw [show loK (k : Int) = 0 from if_neg (by omega)]; exact ok1) | (rw [show loK (k : Int) = 1 from if_pos (by omega)]; exact ok1)))
                        rw [ea] at hQ1
                        dsimp only at hQ1
                        have tt := TPL.a (e := nmE T ln (nmE T ln (wE T ln i))) ht (by omega)
                        refine wp_iv3 dX4_readAct_80 VX2_add lX4_43 tt.2.2.2.1 (rq0 rfl rfl) (Nat.le_of_ble_eq_true rfl) (C_add tt (by omega) hn (fun h1 t1 => ?_))
                        dsimp only [pushR]
                        rw [← ek] at t1
                        refine wp_iconst dX4_readAct_83 ?_
                        exact wp_zret dX4_readAct_84 rfl (Or.inr rfl) (hQ1 rfl _ t1)
                      · refine wp_iconst dX4_readAct_73 ?_
                        exact wp_zret dX4_readAct_74 rfl (Or.inl rfl) (False.elim (by omega))
                  · dsimp only [pushR]
                    refine wp_istore (L' := [some (vR 14), some (vR pp), some (vI (k : Int)), some (vI (nmV T ln (wE T ln i))), some (vI (-1))]) dX4_readAct_62 (by decide) rfl ?_
                    refine wp_iload_n dX4_readAct_64 rfl ?_
                    refine wp_if_lt 73 dX4_readAct_65 rfl (by first | assumption | (unfold r32; omega)) (fun c65 => ?_) (fun c65 => ?_)
                    · refine wp_iconst dX4_readAct_73 ?_
                      exact wp_zret dX4_readAct_74 rfl (Or.inl rfl) (by
                          have ea : acS T ln i = (nmX T ln (nmE T ln (wE T ln i)), -1, i, 0, 0) := by first | (exfalso; omega) | exact acS_0 ek | exact acS_3b (by omega) (by rw [show (9 : Int) = hiK (k : Int) by rw [show (k : Int) = 3 by omega]; rfl]; exact ok1) ok2 | exact acS_b (by omega) (by omega) (by omega) (by rw [ek]; (first | (rw [show loK (k : Int) = 0 from if_neg (by omega)]; exact ok1) | (rw [show loK (k : Int) = 1 from if_pos (by omega)]; exact ok1)))
                          have xb := acS_bd (T := T) hi
                          rw [ea] at hQ0 xb
                          dsimp only at hQ0 xb
                          exact hQ0 (by have := nmX_b (T := T) (ln := ln) (i := (nmE T ln (wE T ln i))) (by omega); omega) _ (TPL.a ht (by omega)))
                    · refine wp_iload dX4_readAct_68 rfl ?_
                      refine wp_if_ge 75 dX4_readAct_70 rfl ⟨by omega, by omega⟩ (fun c70 => absurd c70 (by omega)) (fun c70 => ?_)
                      refine wp_iconst dX4_readAct_73 ?_
                      exact wp_zret dX4_readAct_74 rfl (Or.inl rfl) (by
                          have ea : acS T ln i = (nmX T ln (nmE T ln (wE T ln i)), -1, i, 0, 0) := by first | (exfalso; omega) | exact acS_0 ek | exact acS_3b (by omega) (by rw [show (9 : Int) = hiK (k : Int) by rw [show (k : Int) = 3 by omega]; rfl]; exact ok1) ok2 | exact acS_b (by omega) (by omega) (by omega) (by rw [ek]; (first | (rw [show loK (k : Int) = 0 from if_neg (by omega)]; exact ok1) | (rw [show loK (k : Int) = 1 from if_pos (by omega)]; exact ok1)))
                          have xb := acS_bd (T := T) hi
                          rw [ea] at hQ0 xb
                          dsimp only at hQ0 xb
                          exact hQ0 (by have := nmX_b (T := T) (ln := ln) (i := (nmE T ln (wE T ln i))) (by omega); omega) _ (TPL.a ht (by omega)))
            · dsimp only [pushR]
              refine wp_istore_n (L' := [some (vR 14), some (vR pp), some (vI (k : Int)), some (vI (-1)), some (vI 0)]) dX4_readAct_44 (by decide) rfl ?_
              refine wp_iload_n dX4_readAct_45 rfl ?_
              refine wp_iconst dX4_readAct_46 ?_
              refine wp_icmp_ne 64 dX4_readAct_47 rfl (by first | assumption | (unfold r32; omega)) ⟨by omega, by omega⟩ (fun c47 => ?_) (fun c47 => ?_)
              · refine wp_iload_n dX4_readAct_64 rfl ?_
                refine wp_if_lt 73 dX4_readAct_65 rfl ⟨by omega, by omega⟩ (fun c65 => ?_) (fun c65 => absurd c65 (by omega))
                refine wp_iconst dX4_readAct_73 ?_
                exact wp_zret dX4_readAct_74 rfl (Or.inl rfl) (by
                    have ea : acS T ln i = (nmX T ln (wE T ln i), -1, i, 0, 0) := by first | (exfalso; omega) | exact acS_0 ek | exact acS_3b (by omega) (by rw [show (9 : Int) = hiK (k : Int) by rw [show (k : Int) = 3 by omega]; rfl]; exact ok1) ok2 | exact acS_b (by omega) (by omega) (by omega) (by rw [ek]; (first | (rw [show loK (k : Int) = 0 from if_neg (by omega)]; exact ok1) | (rw [show loK (k : Int) = 1 from if_pos (by omega)]; exact ok1)))
                    have xb := acS_bd (T := T) hi
                    rw [ea] at hQ0 xb
                    dsimp only at hQ0 xb
                    exact hQ0 (by have := nmX_b (T := T) (ln := ln) (i := (wE T ln i)) (by omega); omega) _ (TPL.a ht (by omega)))
              · refine wp_iload_n dX4_readAct_50 rfl ?_
                refine wp_if_lt 64 dX4_readAct_51 rfl ⟨by omega, by omega⟩ (fun c51 => ?_) (fun c51 => absurd c51 (by omega))
                refine wp_iload_n dX4_readAct_64 rfl ?_
                refine wp_if_lt 73 dX4_readAct_65 rfl ⟨by omega, by omega⟩ (fun c65 => ?_) (fun c65 => absurd c65 (by omega))
                refine wp_iconst dX4_readAct_73 ?_
                exact wp_zret dX4_readAct_74 rfl (Or.inl rfl) (by
                    have ea : acS T ln i = (nmX T ln (wE T ln i), -1, i, 0, 0) := by first | (exfalso; omega) | exact acS_0 ek | exact acS_3b (by omega) (by rw [show (9 : Int) = hiK (k : Int) by rw [show (k : Int) = 3 by omega]; rfl]; exact ok1) ok2 | exact acS_b (by omega) (by omega) (by omega) (by rw [ek]; (first | (rw [show loK (k : Int) = 0 from if_neg (by omega)]; exact ok1) | (rw [show loK (k : Int) = 1 from if_pos (by omega)]; exact ok1)))
                    have xb := acS_bd (T := T) hi
                    rw [ea] at hQ0 xb
                    dsimp only at hQ0 xb
                    exact hQ0 (by have := nmX_b (T := T) (ln := ln) (i := (wE T ln i)) (by omega); omega) _ (TPL.a ht (by omega)))
          · refine wp_iconst dX4_readAct_32 ?_
            refine wp_goto 37 dX4_readAct_33 rfl ?_
            refine wp_iload_n dX4_readAct_37 rfl ?_
            refine wp_is1 dX4_readAct_38 SX4_mostOf lX4_35 (rq0 rfl rfl) (Nat.le_of_ble_eq_true rfl) (C_mostOf kz ?_)
            dsimp only [pushR]
            refine wp_iv2 dX4_readAct_41 VX4_readNumber lX4_39 (gs_eq (gs_lt t14)) (rq0 rfl rfl) (Nat.le_of_ble_eq_true rfl) (C_readNumber t14 t15 hT hi.2.2 (by omega) (by first | assumption | (unfold r32; omega)) (by first | assumption | (unfold r32; omega)) (fun ok1 => ?_) (fun ok1 => ?_))
            · dsimp only [pushR]
              have nok1 := nm_b (T := T) (ln := ln) (i := wE T ln i) ok1.1.1
              refine wp_istore_n (L' := [some (vR 14), some (vR pp), some (vI (k : Int)), some (vI (nmV T ln (wE T ln i))), some (vI 0)]) dX4_readAct_44 (by decide) rfl ?_
              refine wp_iload_n dX4_readAct_45 rfl ?_
              refine wp_iconst dX4_readAct_46 ?_
              refine wp_icmp_ne 64 dX4_readAct_47 rfl (by first | assumption | (unfold r32; omega)) ⟨by omega, by omega⟩ (fun c47 => ?_) (fun c47 => ?_)
              · refine wp_iload_n dX4_readAct_64 rfl ?_
                refine wp_if_lt 73 dX4_readAct_65 rfl (by first | assumption | (unfold r32; omega)) (fun c65 => ?_) (fun c65 => ?_)
                · refine wp_iconst dX4_readAct_73 ?_
                  exact wp_zret dX4_readAct_74 rfl (Or.inl rfl) (False.elim (by omega))
                · refine wp_iload dX4_readAct_68 rfl ?_
                  refine wp_if_ge 75 dX4_readAct_70 rfl ⟨by omega, by omega⟩ (fun c70 => ?_) (fun c70 => absurd c70 (by omega))
                  refine wp_aload_n dX4_readAct_75 rfl ?_
                  refine wp_iload_n dX4_readAct_76 rfl ?_
                  refine wp_iload_n dX4_readAct_77 rfl ?_
                  refine wp_iload dX4_readAct_78 rfl ?_
                  have ea : acS T ln i = (-1, (kdF (wcd T i (wE T ln i))), nmE T ln (wE T ln i), (nmV T ln (wE T ln i)), 0) := by
                    first | (exfalso; omega) | exact acS_1 (by omega) | exact acS_3 (by omega) (by rw [show (9 : Int) = hiK (k : Int) by rw [show (k : Int) = 3 by omega]; rfl]; exact ok1) ok2 | exact acS_2 (by omega) (by omega) (by omega) (by omega) (by rw [ek]; (first | exact ok1 | (rw [show loK (k : Int) = 0 from if_neg (by omega)]; exact ok1) | (rw [show loK (k : Int) = 1 from if_pos (by omega)]; exact ok1)))
                  rw [ea] at hQ1
                  dsimp only at hQ1
                  have tt := TPL.a (e := nmE T ln (wE T ln i)) ht (by omega)
                  refine wp_iv3 dX4_readAct_80 VX2_add lX4_43 tt.2.2.2.1 (rq0 rfl rfl) (Nat.le_of_ble_eq_true rfl) (C_add tt (by omega) hn (fun h1 t1 => ?_))
                  dsimp only [pushR]
                  rw [← ek] at t1
                  refine wp_iconst dX4_readAct_83 ?_
                  exact wp_zret dX4_readAct_84 rfl (Or.inr rfl) (hQ1 rfl _ t1)
              · refine wp_iload_n dX4_readAct_50 rfl ?_
                refine wp_if_lt 64 dX4_readAct_51 rfl (by first | assumption | (unfold r32; omega)) (fun c51 => ?_) (fun c51 => ?_)
                · refine wp_iload_n dX4_readAct_64 rfl ?_
                  refine wp_if_lt 73 dX4_readAct_65 rfl (by first | assumption | (unfold r32; omega)) (fun c65 => ?_) (fun c65 => ?_)
                  · refine wp_iconst dX4_readAct_73 ?_
                    exact wp_zret dX4_readAct_74 rfl (Or.inl rfl) (False.elim (by omega))
                  · refine wp_iload dX4_readAct_68 rfl ?_
                    refine wp_if_ge 75 dX4_readAct_70 rfl ⟨by omega, by omega⟩ (fun c70 => ?_) (fun c70 => absurd c70 (by omega))
                    refine wp_aload_n dX4_readAct_75 rfl ?_
                    refine wp_iload_n dX4_readAct_76 rfl ?_
                    refine wp_iload_n dX4_readAct_77 rfl ?_
                    refine wp_iload dX4_readAct_78 rfl ?_
                    have ea : acS T ln i = (-1, (kdF (wcd T i (wE T ln i))), nmE T ln (wE T ln i), (nmV T ln (wE T ln i)), 0) := by
                      first | (exfalso; omega) | exact acS_1 (by omega) | exact acS_3 (by omega) (by rw [show (9 : Int) = hiK (k : Int) by rw [show (k : Int) = 3 by omega]; rfl]; exact ok1) ok2 | exact acS_2 (by omega) (by omega) (by omega) (by omega) (by rw [ek]; (first | exact ok1 | (rw [show loK (k : Int) = 0 from if_neg (by omega)]; exact ok1) | (rw [show loK (k : Int) = 1 from if_pos (by omega)]; exact ok1)))
                    rw [ea] at hQ1
                    dsimp only at hQ1
                    have tt := TPL.a (e := nmE T ln (wE T ln i)) ht (by omega)
                    refine wp_iv3 dX4_readAct_80 VX2_add lX4_43 tt.2.2.2.1 (rq0 rfl rfl) (Nat.le_of_ble_eq_true rfl) (C_add tt (by omega) hn (fun h1 t1 => ?_))
                    dsimp only [pushR]
                    rw [← ek] at t1
                    refine wp_iconst dX4_readAct_83 ?_
                    exact wp_zret dX4_readAct_84 rfl (Or.inr rfl) (hQ1 rfl _ t1)
                · refine wp_aload_n dX4_readAct_54 rfl ?_
                  refine wp_iconst dX4_readAct_55 ?_
                  refine wp_sipush dX4_readAct_56 rfl ?_
                  refine wp_iv2 dX4_readAct_59 VX4_readNumber lX4_39 (gs_eq (gs_lt t14)) (rq0 rfl rfl) (Nat.le_of_ble_eq_true rfl) (C_readNumber t14 t15 hT hi.2.2 (by omega) (by first | assumption | (unfold r32; omega)) (by first | assumption | (unfold r32; omega)) (fun ok2 => ?_) (fun ok2 => ?_))
                  · dsimp only [pushR]
                    have nok2 := nm_b (T := T) (ln := ln) (i := nmE T ln (wE T ln i)) ok2.1.1
                    refine wp_istore (L' := [some (vR 14), some (vR pp), some (vI (k : Int)), some (vI (nmV T ln (wE T ln i))), some (vI (nmV T ln (nmE T ln (wE T ln i))))]) dX4_readAct_62 (by decide) rfl ?_
                    refine wp_iload_n dX4_readAct_64 rfl ?_
                    refine wp_if_lt 73 dX4_readAct_65 rfl (by first | assumption | (unfold r32; omega)) (fun c65 => ?_) (fun c65 => ?_)
                    · refine wp_iconst dX4_readAct_73 ?_
                      exact wp_zret dX4_readAct_74 rfl (Or.inl rfl) (False.elim (by omega))
                    · refine wp_iload dX4_readAct_68 rfl ?_
                      refine wp_if_ge 75 dX4_readAct_70 rfl (by first | assumption | (unfold r32; omega)) (fun c70 => ?_) (fun c70 => ?_)
                      · refine wp_aload_n dX4_readAct_75 rfl ?_
                        refine wp_iload_n dX4_readAct_76 rfl ?_
                        refine wp_iload_n dX4_readAct_77 rfl ?_
                        refine wp_iload dX4_readAct_78 rfl ?_
                        have ea : acS T ln i = (-1, (kdF (wcd T i (wE T ln i))), nmE T ln (nmE T ln (wE T ln i)), (nmV T ln (wE T ln i)), (nmV T ln (nmE T ln (wE T ln i)))) := by
                          first | (exfalso; omega) | exact acS_1 (by omega) | exact acS_3 (by omega) (by rw [show (9 : Int) = hiK (k : Int) by rw [show (k : Int) = 3 by omega]; rfl]; exact ok1) ok2 | exact acS_2 (by omega) (by omega) (by omega) (by omega) (by rw [ek]; (first | exact ok1 | (rw [show loK (k : Int) = 0 from if_neg (by omega)]; exact ok1) | (rw [show loK (k : Int) = 1 from if_pos (by omega)]; exact ok1)))
                        rw [ea] at hQ1
                        dsimp only at hQ1
                        have tt := TPL.a (e := nmE T ln (nmE T ln (wE T ln i))) ht (by omega)
                        refine wp_iv3 dX4_readAct_80 VX2_add lX4_43 tt.2.2.2.1 (rq0 rfl rfl) (Nat.le_of_ble_eq_true rfl) (C_add tt (by omega) hn (fun h1 t1 => ?_))
                        dsimp only [pushR]
                        rw [← ek] at t1
                        refine wp_iconst dX4_readAct_83 ?_
                        exact wp_zret dX4_readAct_84 rfl (Or.inr rfl) (hQ1 rfl _ t1)
                      · refine wp_iconst dX4_readAct_73 ?_
                        exact wp_zret dX4_readAct_74 rfl (Or.inl rfl) (False.elim (by omega))
                  · dsimp only [pushR]
                    refine wp_istore (L' := [some (vR 14), some (vR pp), some (vI (k : Int)), some (vI (nmV T ln (wE T ln i))), some (vI (-1))]) dX4_readAct_62 (by decide) rfl ?_
                    refine wp_iload_n dX4_readAct_64 rfl ?_
                    refine wp_if_lt 73 dX4_readAct_65 rfl (by first | assumption | (unfold r32; omega)) (fun c65 => ?_) (fun c65 => ?_)
                    · refine wp_iconst dX4_readAct_73 ?_
                      exact wp_zret dX4_readAct_74 rfl (Or.inl rfl) (by
                          have ea : acS T ln i = (nmX T ln (nmE T ln (wE T ln i)), -1, i, 0, 0) := by first | (exfalso; omega) | exact acS_0 ek | exact acS_3b (by omega) (by rw [show (9 : Int) = hiK (k : Int) by rw [show (k : Int) = 3 by omega]; rfl]; exact ok1) ok2 | exact acS_b (by omega) (by omega) (by omega) (by rw [ek]; (first | (rw [show loK (k : Int) = 0 from if_neg (by omega)]; exact ok1) | (rw [show loK (k : Int) = 1 from if_pos (by omega)]; exact ok1)))
                          have xb := acS_bd (T := T) hi
                          rw [ea] at hQ0 xb
                          dsimp only at hQ0 xb
                          exact hQ0 (by have := nmX_b (T := T) (ln := ln) (i := (nmE T ln (wE T ln i))) (by omega); omega) _ (TPL.a ht (by omega)))
                    · refine wp_iload dX4_readAct_68 rfl ?_
                      refine wp_if_ge 75 dX4_readAct_70 rfl ⟨by omega, by omega⟩ (fun c70 => absurd c70 (by omega)) (fun c70 => ?_)
                      refine wp_iconst dX4_readAct_73 ?_
                      exact wp_zret dX4_readAct_74 rfl (Or.inl rfl) (by
                          have ea : acS T ln i = (nmX T ln (nmE T ln (wE T ln i)), -1, i, 0, 0) := by first | (exfalso; omega) | exact acS_0 ek | exact acS_3b (by omega) (by rw [show (9 : Int) = hiK (k : Int) by rw [show (k : Int) = 3 by omega]; rfl]; exact ok1) ok2 | exact acS_b (by omega) (by omega) (by omega) (by rw [ek]; (first | (rw [show loK (k : Int) = 0 from if_neg (by omega)]; exact ok1) | (rw [show loK (k : Int) = 1 from if_pos (by omega)]; exact ok1)))
                          have xb := acS_bd (T := T) hi
                          rw [ea] at hQ0 xb
                          dsimp only at hQ0 xb
                          exact hQ0 (by have := nmX_b (T := T) (ln := ln) (i := (nmE T ln (wE T ln i))) (by omega); omega) _ (TPL.a ht (by omega)))
            · dsimp only [pushR]
              refine wp_istore_n (L' := [some (vR 14), some (vR pp), some (vI (k : Int)), some (vI (-1)), some (vI 0)]) dX4_readAct_44 (by decide) rfl ?_
              refine wp_iload_n dX4_readAct_45 rfl ?_
              refine wp_iconst dX4_readAct_46 ?_
              refine wp_icmp_ne 64 dX4_readAct_47 rfl (by first | assumption | (unfold r32; omega)) ⟨by omega, by omega⟩ (fun c47 => ?_) (fun c47 => ?_)
              · refine wp_iload_n dX4_readAct_64 rfl ?_
                refine wp_if_lt 73 dX4_readAct_65 rfl ⟨by omega, by omega⟩ (fun c65 => ?_) (fun c65 => absurd c65 (by omega))
                refine wp_iconst dX4_readAct_73 ?_
                exact wp_zret dX4_readAct_74 rfl (Or.inl rfl) (by
                    have ea : acS T ln i = (nmX T ln (wE T ln i), -1, i, 0, 0) := by first | (exfalso; omega) | exact acS_0 ek | exact acS_3b (by omega) (by rw [show (9 : Int) = hiK (k : Int) by rw [show (k : Int) = 3 by omega]; rfl]; exact ok1) ok2 | exact acS_b (by omega) (by omega) (by omega) (by rw [ek]; (first | (rw [show loK (k : Int) = 0 from if_neg (by omega)]; exact ok1) | (rw [show loK (k : Int) = 1 from if_pos (by omega)]; exact ok1)))
                    have xb := acS_bd (T := T) hi
                    rw [ea] at hQ0 xb
                    dsimp only at hQ0 xb
                    exact hQ0 (by have := nmX_b (T := T) (ln := ln) (i := (wE T ln i)) (by omega); omega) _ (TPL.a ht (by omega)))
              · refine wp_iload_n dX4_readAct_50 rfl ?_
                refine wp_if_lt 64 dX4_readAct_51 rfl ⟨by omega, by omega⟩ (fun c51 => ?_) (fun c51 => absurd c51 (by omega))
                refine wp_iload_n dX4_readAct_64 rfl ?_
                refine wp_if_lt 73 dX4_readAct_65 rfl ⟨by omega, by omega⟩ (fun c65 => ?_) (fun c65 => absurd c65 (by omega))
                refine wp_iconst dX4_readAct_73 ?_
                exact wp_zret dX4_readAct_74 rfl (Or.inl rfl) (by
                    have ea : acS T ln i = (nmX T ln (wE T ln i), -1, i, 0, 0) := by first | (exfalso; omega) | exact acS_0 ek | exact acS_3b (by omega) (by rw [show (9 : Int) = hiK (k : Int) by rw [show (k : Int) = 3 by omega]; rfl]; exact ok1) ok2 | exact acS_b (by omega) (by omega) (by omega) (by rw [ek]; (first | (rw [show loK (k : Int) = 0 from if_neg (by omega)]; exact ok1) | (rw [show loK (k : Int) = 1 from if_pos (by omega)]; exact ok1)))
                    have xb := acS_bd (T := T) hi
                    rw [ea] at hQ0 xb
                    dsimp only at hQ0 xb
                    exact hQ0 (by have := nmX_b (T := T) (ln := ln) (i := (wE T ln i)) (by omega); omega) _ (TPL.a ht (by omega)))
    · refine wp_iconst dX4_readAct_9 ?_
      exact wp_zret dX4_readAct_10 rfl (Or.inl rfl) (False.elim (by omega))
  · dsimp only [pushR]
    have ek : (kdF (wcd T i (wE T ln i))) = -1 := kdF_n (fun k hk q => nst k hk ((std_code wb.1 hlet hk).mp q))
    refine wp_istore_n (L' := [some (vR 14), some (vR pp), some (vI (-1)), none, none]) dX4_readAct_4 (by decide) rfl ?_
    refine wp_iload_n dX4_readAct_5 rfl ?_
    refine wp_if_ge 11 dX4_readAct_6 rfl ⟨by omega, by omega⟩ (fun c6 => absurd c6 (by omega)) (fun c6 => ?_)
    refine wp_iconst dX4_readAct_9 ?_
    exact wp_zret dX4_readAct_10 rfl (Or.inl rfl) (by have ea : acS T ln i = (i, -1, i, 0, 0) := acS_0 ek; rw [ea] at hQ0; exact hQ0 (by omega) _ ht)
end AQ
