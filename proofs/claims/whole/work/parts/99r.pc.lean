/-! plan, the class -/
def plS (T : Int → Int) (ln : Int) : Nat → Int → Int → (Int → Int) → (Int → Int) → (Int → Int) → Int × Int × (Int → Int) × (Int → Int) × (Int → Int)
  | 0, n, i, K, F, S => (i, n, K, F, S)
  | m + 1, n, i, K, F, S =>
    if 0 ≤ (acS T ln i).1 then ((acS T ln i).1, n, K, F, S)
    else if ln ≤ (acS T ln i).2.2.1 then (-1, n + 1, ud K n (acS T ln i).2.1, ud F n (acS T ln i).2.2.2.1, ud S n (acS T ln i).2.2.2.2)
    else if T (acS T ln i).2.2.1 = 59 then plS T ln m (n + 1) ((acS T ln i).2.2.1 + 1) (ud K n (acS T ln i).2.1) (ud F n (acS T ln i).2.2.2.1) (ud S n (acS T ln i).2.2.2.2)
    else ((acS T ln i).2.2.1, n + 1, ud K n (acS T ln i).2.1, ud F n (acS T ln i).2.2.2.1, ud S n (acS T ln i).2.2.2.2)
def plA (r : Int × Int × (Int → Int) × (Int → Int) × (Int → Int)) : Int := if r.1 = -1 then r.2.1 else -100 - r.1
def sg (c i : Int) : Int := if i = c then 6 else if i = 6 then c else i
def swp {α : Type} (f : Int → α) (c : Int) : Int → α := fun i => f (sg c i)
def FRP (h h' : AH) : Prop := h'.length = h.length ∧ ∀ i, i ≠ 0 → i ≠ 14 → (i < 16 ∨ 45 ≤ i) → h'[i]? = h[i]?
section PC
variable {X : XS} {h h0 : AH} {Q : Option AV → AH → Prop} {T sz : Int → Int} {K Fs S : Int → Int → Int} {Ki Fi Si : Int → Int} {ln i n : Int} {pp : Nat} {b : Nat × Nat} {pl : Int → Nat} {sp kp : AV}
theorem plS_b (hl : ln ≤ 160) : ∀ (m : Nat) (n i : Int) (K F S : Int → Int), n + m = 5 → 0 ≤ n → 0 ≤ i ∧ i ≤ ln → (-1 ≤ (plS T ln m n i K F S).1 ∧ (plS T ln m n i K F S).1 ≤ 160) ∧ (n ≤ (plS T ln m n i K F S).2.1 ∧ (plS T ln m n i K F S).2.1 ≤ 5) ∧ ((plS T ln m n i K F S).1 = -1 → 1 ≤ (plS T ln m n i K F S).2.1) := by
  intro m
  induction m with
  | zero => intro n i K F S h1 h2 h3; unfold plS; dsimp only; omega
  | succ m ih =>
    intro n i K F S h1 h2 h3
    have ab := acS_bd (T := T) (ln := ln) (i := i) ⟨h3.1, h3.2, hl⟩
    unfold plS
    split
    · dsimp only; omega
    · split
      · dsimp only; omega
      · split
        · have := ih (n + 1) ((acS T ln i).2.2.1 + 1) (ud K n (acS T ln i).2.1) (ud F n (acS T ln i).2.2.2.1) (ud S n (acS T ln i).2.2.2.2) (by omega) (by omega) (by omega)
          omega
        · dsimp only; omega
set_option maxHeartbeats 1000000 in
theorem lp_ri (hpp : 16 ≤ pp) (h15 : h0[15]? = some (oI 160 T)) (hT : ∀ j, 0 ≤ T j ∧ T j < 256) (hl : ln ≤ 160) : ∀ (m : Nat) (n i : Int) (K Fs S : Int → Int) (h : AH), n + m = 5 → 0 ≤ n → 0 ≤ i ∧ i ≤ ln → TPL h0 h ln i pp n K Fs S → (∀ h' a, TPL h0 h' ln a pp (plS T ln m n i K Fs S).2.1 (plS T ln m n i K Fs S).2.2.1 (plS T ln m n i K Fs S).2.2.2.1 (plS T ln m n i K Fs S).2.2.2.2 → Q (some (vI (plA (plS T ln m n i K Fs S)))) h') → Wp X kX4_readInto 12 [some (vR 14), some (vR pp), some (vI n)] [] h b Q := by
  intro m
  induction m with
  | zero =>
    intro n i K Fs S h q1 q2 q3 ht hQ
    obtain ⟨t1, t2, t14, tp, tK, tF, tS⟩ := id ht
    unfold plA plS at hQ
    rw [if_neg (by dsimp only; omega)] at hQ
    refine wp_iload_n dX4_readInto_12 rfl ?_
    refine wp_iconst dX4_readInto_13 ?_
    refine wp_icmp_ge 87 dX4_readInto_14 rfl (by first | assumption | (unfold r32; omega)) ⟨by omega, by omega⟩ (fun c14 => ?_) (fun c14 => ?_)
    · refine wp_bipush dX4_readInto_87 rfl ?_
      refine wp_aload_n dX4_readInto_89 rfl ?_
      refine wp_getf dX4_readInto_90 fX4_24 t14 rfl ?_
      refine wp_isub dX4_readInto_93 ?_
      exact wp_iret dX4_readInto_94 rfl (hQ h i ht)
    · exfalso; omega
  | succ m ih =>
    intro n i K Fs S h q1 q2 q3 ht hQ
    obtain ⟨t1, t2, t14, tp, tK, tF, tS⟩ := id ht
    have ab := acS_bd (T := T) (ln := ln) (i := i) ⟨q3.1, q3.2, hl⟩
    unfold plS at hQ
    refine wp_iload_n dX4_readInto_12 rfl ?_
    refine wp_iconst dX4_readInto_13 ?_
    refine wp_icmp_ge 87 dX4_readInto_14 rfl (by first | assumption | (unfold r32; omega)) ⟨by omega, by omega⟩ (fun c14 => ?_) (fun c14 => ?_)
    · refine wp_bipush dX4_readInto_87 rfl ?_
      refine wp_aload_n dX4_readInto_89 rfl ?_
      refine wp_getf dX4_readInto_90 fX4_24 t14 rfl ?_
      refine wp_isub dX4_readInto_93 ?_
      exact wp_iret dX4_readInto_94 rfl (False.elim (by omega))
    · refine wp_aload_n dX4_readInto_17 rfl ?_
      refine wp_aload_n dX4_readInto_18 rfl ?_
      refine wp_iv1 dX4_readInto_19 VX4_readAct lX4_27 t14 (rq0 rfl rfl) (Nat.le_of_ble_eq_true rfl) (C_readAct ht hpp h15 hT ⟨q3.1, q3.2, hl⟩ (by omega) (fun ea h1 tt => ?_) (fun ea h1 tt => ?_))
      · dsimp only [pushR]
        rw [if_neg (by omega)] at hQ
        have te := hT (acS T ln i).2.2.1
        have u15 : h1[15]? = some (oI 160 T) := (tt.2.1 15 (by decide) (by omega)).trans h15
        refine wp_if_ne 33 dX4_readInto_22 rfl ⟨by omega, by omega⟩ (fun c22 => ?_) (fun c22 => absurd c22 (by omega))
        refine wp_aload_n dX4_readInto_33 rfl ?_
        refine wp_getf dX4_readInto_34 fX4_24 tt.2.2.1 rfl ?_
        refine wp_aload_n dX4_readInto_37 rfl ?_
        refine wp_getf dX4_readInto_38 fX4_15 tt.2.2.1 rfl ?_
        refine wp_icmp_lt 49 dX4_readInto_41 rfl (by first | assumption | (unfold r32; omega)) (by first | assumption | (unfold r32; omega)) (fun c41 => ?_) (fun c41 => ?_)
        · refine wp_aload_n dX4_readInto_49 rfl ?_
          refine wp_getf dX4_readInto_50 fX4_9 tt.2.2.1 rfl ?_
          refine wp_aload_n dX4_readInto_53 rfl ?_
          refine wp_getf dX4_readInto_54 fX4_24 tt.2.2.1 rfl ?_
          refine wp_iav (v := T ((acS T ln i).2.2.1)) dX4_readInto_57 u15 (by decide) (by omega) rfl ?_
          refine wp_bipush dX4_readInto_58 rfl ?_
          refine wp_icmp_eq 71 dX4_readInto_60 rfl (by first | assumption | (unfold r32; omega)) ⟨by omega, by omega⟩ (fun c60 => ?_) (fun c60 => ?_)
          · refine wp_aload_n dX4_readInto_71 rfl ?_
            refine wp_dup dX4_readInto_72 rfl ?_
            refine wp_getf dX4_readInto_73 fX4_24 tt.2.2.1 rfl ?_
            refine wp_iconst dX4_readInto_76 ?_
            refine wp_iadd dX4_readInto_77 ?_
            refine wp_putv (fs' := [vR 15, vI ln, vI ((acS T ln i).2.2.1 + 1)]) dX4_readInto_78 (pX4_24 rfl) tt.2.2.1 (Nat.le_of_ble_eq_true rfl) (fitF_int _) rfl ?_
            refine wp_iinc (L' := [some (vR 14), some (vR pp), some (vI (n + 1))]) dX4_readInto_81 rfl rfl ?_
            refine wp_goto 12 dX4_readInto_84 rfl ?_
            rw [if_neg (by omega), if_pos (by omega)] at hQ
            exact ih (n + 1) _ _ _ _ _ (by omega) (by omega) (by omega) (TPL.a tt (by omega)) hQ
          · refine wp_bipush dX4_readInto_63 rfl ?_
            refine wp_aload_n dX4_readInto_65 rfl ?_
            refine wp_getf dX4_readInto_66 fX4_24 tt.2.2.1 rfl ?_
            refine wp_isub dX4_readInto_69 ?_
            exact wp_iret dX4_readInto_70 rfl (by rw [if_neg (by omega), if_neg (by omega)] at hQ; unfold plA at hQ; rw [if_neg (by dsimp only; omega)] at hQ; exact hQ h1 _ tt)
        · refine wp_aload_n dX4_readInto_44 rfl ?_
          refine wp_getf dX4_readInto_45 fX4_19 tt.2.2.2.1 rfl ?_
          exact wp_iret dX4_readInto_48 rfl (by rw [if_pos (by omega)] at hQ; exact hQ h1 _ tt)
      · dsimp only [pushR]
        rw [if_pos ea] at hQ
        unfold plA at hQ
        rw [if_neg (by dsimp only; omega)] at hQ
        refine wp_if_ne 33 dX4_readInto_22 rfl ⟨by omega, by omega⟩ (fun c22 => absurd c22 (by omega)) (fun c22 => ?_)
        refine wp_bipush dX4_readInto_25 rfl ?_
        refine wp_aload_n dX4_readInto_27 rfl ?_
        refine wp_getf dX4_readInto_28 fX4_24 tt.2.2.1 rfl ?_
        refine wp_isub dX4_readInto_31 ?_
        exact wp_iret dX4_readInto_32 rfl (hQ h1 _ tt)
theorem C_readInto {a0 n0 : Int} (ht : TPL h h ln a0 pp n0 Ki Fi Si) (hpp : 16 ≤ pp) (h15 : h[15]? = some (oI 160 T)) (hT : ∀ j, 0 ≤ T j ∧ T j < 256) (hl : 0 ≤ ln ∧ ln ≤ 160) (hQ : ∀ h' a, TPL h h' ln a pp (plS T ln 5 0 0 Ki Fi Si).2.1 (plS T ln 5 0 0 Ki Fi Si).2.2.1 (plS T ln 5 0 0 Ki Fi Si).2.2.2.1 (plS T ln 5 0 0 Ki Fi Si).2.2.2.2 → Q (some (vI (plA (plS T ln 5 0 0 Ki Fi Si)))) h') : Cl X kX4_readInto [vR 14, vR pp] h Q := by
  refine cl_of rfl (Nat.le_of_ble_eq_true rfl) rfl ?_
  obtain ⟨t1, t2, t14, tp, tK, tF, tS⟩ := id ht
  refine wp_aload_n dX4_readInto_0 rfl ?_
  refine wp_iconst dX4_readInto_1 ?_
  refine wp_putv (fs' := [vR (pp + 1), vR (pp + 2), vR (pp + 3), vI 0]) dX4_readInto_2 (pX4_19 rfl) tp (Nat.le_of_ble_eq_true rfl) (fitF_int _) rfl ?_
  refine wp_aload_n dX4_readInto_5 rfl ?_
  refine wp_iconst dX4_readInto_6 ?_
  refine wp_putv (fs' := [vR 15, vI ln, vI 0]) dX4_readInto_7 (pX4_24 rfl) (gs_ne (by omega) t14) (Nat.le_of_ble_eq_true rfl) (fitF_int _) rfl ?_
  refine wp_iconst dX4_readInto_10 ?_
  refine wp_istore_n (L' := [some (vR 14), some (vR pp), some (vI 0)]) dX4_readInto_11 (by decide) rfl ?_
  have tt : TPL h ((h.set pp (oO 2 ([vR (pp + 1), vR (pp + 2), vR (pp + 3), vI 0]))).set 14 (oO 4 ([vR 15, vI ln, vI 0]))) ln 0 pp 0 Ki Fi Si := ⟨by simp only [List.length_set], fun j h14 hj => by rw [List.getElem?_set_ne (by omega), List.getElem?_set_ne (by omega)], (gs_eq (gs_l (gs_lt t14))), (gs_ne (by omega) (gs_eq (gs_lt tp))), gs_ne (by omega) (gs_ne (by omega) tK), gs_ne (by omega) (gs_ne (by omega) tF), gs_ne (by omega) (gs_ne (by omega) tS)⟩
  exact lp_ri hpp h15 hT hl.2 5 0 0 _ _ _ _ (by omega) (by omega) (by omega) tt hQ
-- plans change places
theorem sg_b {c i : Int} (hc : 0 ≤ c ∧ c < 6) (hi : 0 ≤ i ∧ i < 7) : 0 ≤ sg c i ∧ sg c i < 7 := by unfold sg; (repeat' split) <;> omega
theorem sg_ne {c i j : Int} (h : i ≠ j) : sg c i ≠ sg c j := by unfold sg; (repeat' split) <;> omega
theorem sg_c {c : Int} : sg c c = 6 := if_pos rfl
theorem sg_6 {c : Int} (h : c < 6) : sg c 6 = c := by unfold sg; rw [if_neg (by omega), if_pos rfl]
theorem sg_o {c j : Int} (h1 : j ≠ c) (h2 : j < 6) : sg c j = j := by unfold sg; rw [if_neg h1, if_neg (by omega)]
theorem plF_swp {c : Int} (hc : 0 ≤ c ∧ c < 6) : udO (plF pl) c (some (pl 6)) = plF (swp pl c) := by
  funext j
  unfold udO plF swp sg
  rcases Decidable.em (j = c) with e | e
  · rw [if_pos e, if_pos (by omega), if_pos e]
  · rw [if_neg e]
    rcases Decidable.em (0 ≤ j ∧ j < 6) with q | q
    · rw [if_pos q, if_pos q, if_neg e, if_neg (by omega)]
    · rw [if_neg q, if_neg q]
/-- what plan leaves of plans -/
def PLN (c : Int) (r : Int × Int × (Int → Int) × (Int → Int) × (Int → Int)) (K Fs S : Int → Int → Int) (sz : Int → Int) (K' Fs' S' : Int → Int → Int) (sz' : Int → Int) : Prop :=
  (∀ j, 0 ≤ j ∧ j < 6 → (r.1 = -1 → j ≠ c) → sz' j = sz j ∧ K' j = K j ∧ Fs' j = Fs j ∧ S' j = S j) ∧ (r.1 = -1 → sz' c = r.2.1 ∧ K' c = r.2.2.1 ∧ Fs' c = r.2.2.2.1 ∧ S' c = r.2.2.2.2)
theorem udR_eq {f : Int → Int → Int} {i : Int} {g : Int → Int} : udR f i g i = g := if_pos rfl
theorem udR_ne {f : Int → Int → Int} {i j : Int} {g : Int → Int} (h : j ≠ i) : udR f i g j = f j := if_neg h
theorem PL.six {a n : Int} {Kn Fn Sn : Int → Int} {h' : AH} (hP : PL h pl K Fs S sz) (ht : TPL h h' ln a (pl 6) n Kn Fn Sn) : PL h' pl (udR K 6 Kn) (udR Fs 6 Fn) (udR S 6 Sn) (ud sz 6 n) := by
  obtain ⟨p16, pc, pd⟩ := hP
  obtain ⟨t1, t2, t14, tp, tK, tF, tS⟩ := ht
  have p6 := pc 6 (by omega)
  refine ⟨(t2 16 (by decide) (by omega)).trans p16, fun i hi => ?_, pd⟩
  have pi := pc i hi
  rcases Decidable.em (i = 6) with e | e
  · subst e
    rw [udR_eq, udR_eq, udR_eq, ud_eq]
    exact ⟨p6.1, tp, tK, tF, tS⟩
  · rw [udR_ne e, udR_ne e, udR_ne e, ud_ne e]
    have d := pd i 6 hi (by omega) e
    exact ⟨pi.1, (t2 _ (by omega) (by omega)).trans pi.2.1, (t2 _ (by omega) (by omega)).trans pi.2.2.1, (t2 _ (by omega) (by omega)).trans pi.2.2.2.1, (t2 _ (by omega) (by omega)).trans pi.2.2.2.2⟩
theorem PL.swp {c : Int} {h' : AH} (hc : 0 ≤ c ∧ c < 6) (hP : PL h pl K Fs S sz) (h16 : h'[16]? = some (oR 0 6 (udO (plF pl) c (some (pl 6))))) (hf : ∀ i, 17 ≤ i → i < 45 → h'[i]? = h[i]?) : PL h' (swp pl c) (swp K c) (swp Fs c) (swp S c) (swp sz c) := by
  obtain ⟨p16, pc, pd⟩ := hP
  rw [plF_swp hc] at h16
  refine ⟨h16, fun i hi => ?_, fun i j hi hj hij => pd _ _ (sg_b hc hi) (sg_b hc hj) (sg_ne hij)⟩
  have pi := pc (sg c i) (sg_b hc hi)
  exact ⟨pi.1, (hf _ (by have := pi.1; show 17 ≤ pl (sg c i); omega) (by have := pi.1; show pl (sg c i) < 45; omega)).trans pi.2.1, (hf _ (by have := pi.1; show 17 ≤ pl (sg c i) + 1; omega) (by have := pi.1; show pl (sg c i) + 1 < 45; omega)).trans pi.2.2.1, (hf _ (by have := pi.1; show 17 ≤ pl (sg c i) + 2; omega) (by have := pi.1; show pl (sg c i) + 2 < 45; omega)).trans pi.2.2.2.1, (hf _ (by have := pi.1; show 17 ≤ pl (sg c i) + 3; omega) (by have := pi.1; show pl (sg c i) + 3 < 45; omega)).trans pi.2.2.2.2⟩
set_option maxHeartbeats 2000000 in
theorem C_cplan {c a0 : Int} (h0 : h[0]? = some (oO 6 (cF (vR (pl 6)) kp))) (h14 : h[14]? = some (oO 4 [vR 15, vI ln, vI a0])) (h15 : h[15]? = some (oI 160 T)) (hP : PL h pl K Fs S sz) (hT : ∀ j, 0 ≤ T j ∧ T j < 256) (hl : 0 ≤ ln ∧ ln ≤ 160) (rc : r32 c) (hQ0 : ¬ (0 ≤ c ∧ c < 6) → Q (some (vI (-1))) h) (hQ : 0 ≤ c ∧ c < 6 → ∀ h' pl' K' Fs' S' sz' a, FRP h h' → PL h' pl' K' Fs' S' sz' → h'[0]? = some (oO 6 (cF (vR (pl' 6)) kp)) → h'[14]? = some (oO 4 [vR 15, vI 0, vI a]) → PLN c (plS T ln 5 0 0 (K 6) (Fs 6) (S 6)) K Fs S sz K' Fs' S' sz' → Q (some (vI (plA (plS T ln 5 0 0 (K 6) (Fs 6) (S 6))))) h') : Cl X kX6_plan [vR 0, vI c] h Q := by
  refine cl_of rfl (Nat.le_of_ble_eq_true rfl) rfl ?_
  obtain ⟨p16, pc, pd⟩ := id hP
  have p6 := pc 6 (by omega)
  have pb := plS_b (T := T) hl.2 5 0 0 (K 6) (Fs 6) (S 6) (by omega) (by omega) ⟨by omega, hl.1⟩
  have hA : plA (plS T ln 5 0 0 (K 6) (Fs 6) (S 6)) = if (plS T ln 5 0 0 (K 6) (Fs 6) (S 6)).1 = -1 then (plS T ln 5 0 0 (K 6) (Fs 6) (S 6)).2.1 else -100 - (plS T ln 5 0 0 (K 6) (Fs 6) (S 6)).1 := rfl
  have rA : r32 (plA (plS T ln 5 0 0 (K 6) (Fs 6) (S 6))) := by rw [hA]; unfold r32; split <;> omega
  refine wp_iload_n dX6_plan_0 rfl ?_
  refine wp_bipush dX6_plan_1 rfl ?_
  refine wp_is2 dX6_plan_3 SX6_below lX6_81 (rq0 rfl rfl) (Nat.le_of_ble_eq_true rfl) (C_below (by first | assumption | exact hR _ | exact bI_r _ | (unfold r32; omega)) (by first | assumption | exact hR _ | exact bI_r _ | (unfold r32; omega)) ?_)
  dsimp only [pushR]
  refine wp_bne 11 dX6_plan_6 rfl (fun c6 => ?_) (fun c6 => ?_)
  · refine wp_aload_n dX6_plan_11 rfl ?_
    refine wp_getf dX6_plan_12 fX6_48 h0 rfl ?_
    refine wp_aload_n dX6_plan_15 rfl ?_
    refine wp_getf dX6_plan_16 fX6_59 h0 rfl ?_
    refine wp_iv1 dX6_plan_19 VX4_readInto lX6_251 h14 (rq0 rfl rfl) (Nat.le_of_ble_eq_true rfl) (C_readInto (ln := ln) (a0 := a0) (n0 := sz 6) ⟨rfl, fun _ _ _ => rfl, h14, p6.2.1, p6.2.2.1, p6.2.2.2.1, p6.2.2.2.2⟩ (by omega) h15 hT hl (fun h1 a1 tt => ?_))
    dsimp only [pushR]
    have P1 := PL.six hP tt
    have u0 : h1[0]? = some (oO 6 (cF (vR (pl 6)) kp)) := (tt.2.1 0 (by decide) (by omega)).trans h0
    have u14 := tt.2.2.1
    have u16 := P1.1
    have v6 := (P1.2.1 6 (by omega)).2.1
    generalize hr : (plS T ln 5 0 0 (K 6) (Fs 6) (S 6)) = r at *
    refine wp_istore_n (L' := [some (vR 0), some (vI c), some (vI (plA r)), none]) dX6_plan_22 (by decide) rfl ?_
    refine wp_aload_n dX6_plan_23 rfl ?_
    refine wp_getf dX6_plan_24 fX6_48 u0 rfl ?_
    refine wp_iconst dX6_plan_27 ?_
    refine wp_putv (fs' := [vR 15, vI 0, vI a1]) dX6_plan_28 (pX6_248 rfl) u14 (Nat.le_of_ble_eq_true rfl) (fitF_int _) rfl ?_
    have hF1 : FRP h (h1.set 14 (oO 4 [vR 15, vI 0, vI a1])) := ⟨by rw [List.length_set]; exact tt.1, fun i q0 q14 q => (List.getElem?_set_ne (by omega)).trans (tt.2.1 i q14 (by omega))⟩
    have hP1 : PL (h1.set 14 (oO 4 [vR 15, vI 0, vI a1])) pl (udR K 6 r.2.2.1) (udR Fs 6 r.2.2.2.1) (udR S 6 r.2.2.2.2) (ud sz 6 r.2.1) := ⟨gs_ne (by decide) P1.1, fun i hi => by have q := P1.2.1 i hi; exact ⟨q.1, gs_ne (by omega) q.2.1, gs_ne (by omega) q.2.2.1, gs_ne (by omega) q.2.2.2.1, gs_ne (by omega) q.2.2.2.2⟩, P1.2.2⟩
    have hN1 : ¬ r.1 = -1 → PLN c r K Fs S sz (udR K 6 r.2.2.1) (udR Fs 6 r.2.2.2.1) (udR S 6 r.2.2.2.2) (ud sz 6 r.2.1) := fun q => ⟨fun j hj _ => ⟨ud_ne (by omega), udR_ne (by omega), udR_ne (by omega), udR_ne (by omega)⟩, fun z => absurd z q⟩
    have hF1 : FRP h (h1.set 14 (oO 4 [vR 15, vI 0, vI a1])) := ⟨by rw [List.length_set]; exact tt.1, fun i q0 q14 q => (List.getElem?_set_ne (by omega)).trans (tt.2.1 i q14 (by omega))⟩
    have hP1 : PL (h1.set 14 (oO 4 [vR 15, vI 0, vI a1])) pl (udR K 6 r.2.2.1) (udR Fs 6 r.2.2.2.1) (udR S 6 r.2.2.2.2) (ud sz 6 r.2.1) := ⟨gs_ne (by decide) P1.1, fun i hi => by have q := P1.2.1 i hi; exact ⟨q.1, gs_ne (by omega) q.2.1, gs_ne (by omega) q.2.2.1, gs_ne (by omega) q.2.2.2.1, gs_ne (by omega) q.2.2.2.2⟩, P1.2.2⟩
    have hN1 : ¬ r.1 = -1 → PLN c r K Fs S sz (udR K 6 r.2.2.1) (udR Fs 6 r.2.2.2.1) (udR S 6 r.2.2.2.2) (ud sz 6 r.2.1) := fun q => ⟨fun j hj _ => ⟨ud_ne (by omega), udR_ne (by omega), udR_ne (by omega), udR_ne (by omega)⟩, fun z => absurd z q⟩
    refine wp_iload_n dX6_plan_31 rfl ?_
    refine wp_if_le 57 dX6_plan_32 rfl (by first | assumption | (unfold r32; omega)) (fun c32 => ?_) (fun c32 => ?_)
    · refine wp_iload_n dX6_plan_57 rfl ?_
      exact wp_iret dX6_plan_58 rfl (hQ (by omega) _ pl _ _ _ _ a1 hF1 hP1 (gs_ne (by decide) u0) (gs_eq (gs_lt u14)) (hN1 (by (repeat' split at hA) <;> omega)))
    · refine wp_aload_n dX6_plan_35 rfl ?_
      refine wp_getf dX6_plan_36 fX6_54 (gs_ne (by decide) u0) rfl ?_
      refine wp_iload_n dX6_plan_39 rfl ?_
      refine wp_aav (j' := (pl c)) dX6_plan_40 (gs_ne (by decide) u16) (by decide) (by omega) (plF_at (by omega)) ?_
      refine wp_astore_n (L' := [some (vR 0), some (vI c), some (vI (plA r)), some (vR (pl c))]) dX6_plan_41 (by decide) rfl ?_
      refine wp_aload_n dX6_plan_42 rfl ?_
      refine wp_getf dX6_plan_43 fX6_54 (gs_ne (by decide) u0) rfl ?_
      refine wp_iload_n dX6_plan_46 rfl ?_
      refine wp_aload_n dX6_plan_47 rfl ?_
      refine wp_getf dX6_plan_48 fX6_59 (gs_ne (by decide) u0) rfl ?_
      have hN2 : r.1 = -1 → PLN c r K Fs S sz (swp (udR K 6 r.2.2.1) c) (swp (udR Fs 6 r.2.2.2.1) c) (swp (udR S 6 r.2.2.2.2) c) (swp (ud sz 6 r.2.1) c) := fun q => ⟨fun j hj hz => by
          have e := sg_o (hz q) hj.2
          unfold swp
          rw [e]
          exact ⟨ud_ne (by omega), udR_ne (by omega), udR_ne (by omega), udR_ne (by omega)⟩, fun _ => by
          unfold swp
          rw [sg_c]
          exact ⟨ud_eq, udR_eq, udR_eq, udR_eq⟩⟩
      refine wp_astP dX6_plan_51 (gs_ne (by decide) u16) (gs_ne (by omega) v6) (by decide) (by omega) (by omega) ?_
      have hF : FRP h ((((h1.set 14 (oO 4 ([vR 15, vI 0, vI a1]))).set 16 (oR 0 6 (udO (plF pl) c (some (pl 6)))))).set 0 (oO 6 (cF (vR (pl c)) kp))) := ⟨by simp only [List.length_set]; exact tt.1, fun i q0 q14 q => (List.getElem?_set_ne (by omega)).trans ((List.getElem?_set_ne (by omega)).trans ((List.getElem?_set_ne (by omega)).trans (tt.2.1 i q14 (by omega))))⟩
      refine wp_aload_n dX6_plan_52 rfl ?_
      refine wp_aload_n dX6_plan_53 rfl ?_
      refine wp_putv (fs' := cF (vR (pl c)) kp) dX6_plan_54 (pX6_59 rfl) (gs_ne (by decide) (gs_ne (by decide) u0)) (Nat.le_of_ble_eq_true rfl) (fitF_ref _ _) rfl ?_
      refine wp_iload_n dX6_plan_57 rfl ?_
      exact wp_iret dX6_plan_58 rfl (hQ (by omega) _ (swp pl c) _ _ _ _ a1 hF (PL.swp (by omega) P1 (gs_ne (by decide) (gs_eq (gs_l (gs_lt u16)))) (fun i q1 q2 => (List.getElem?_set_ne (by omega)).trans ((List.getElem?_set_ne (by omega)).trans (List.getElem?_set_ne (by omega))))) (by show _ = some (oO 6 (cF (vR (pl (sg c 6))) kp)); rw [sg_6 (by omega)]; exact (gs_eq (gs_l (gs_l (gs_lt u0))))) (gs_ne (by decide) (gs_ne (by decide) (gs_eq (gs_lt u14)))) (hN2 (by (repeat' split at hA) <;> omega)))
  · refine wp_iconst dX6_plan_9 ?_
    exact wp_iret dX6_plan_10 rfl (hQ0 (by omega))
end PC
