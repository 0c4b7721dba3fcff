/-! reading an act, the reference -/
def kdL (c : Int) : Nat → Int
  | 0 => -1
  | k + 1 => if vb k = c then (k : Int) else kdL c k
def RPL (h0 h : AH) (dn km ln a ft ac mn om fw mo un ik : Int) (D : Int → Int) : Prop := h.length = h0.length ∧ (∀ i, i ≠ 51 → i ≠ 55 → h[i]? = h0[i]?) ∧ h[51]? = some (oO 7 (mF dn km ln a ft ac mn om fw mo un ik)) ∧ h[55]? = some (oI 15 D)
section AR
variable {X : XS} {h h0 : AH} {Q : Option AV → AH → Prop} {T D : Int → Int} {ln i n dn km ft ac mn om fw mo un ik : Int} {c51 : AC} {b : Nat × Nat} {vf : Int → Int}
theorem kdL_eq (c : Int) : kdL c 8 = kdF c := by
  show (if (755277 : Int) = c then 7 else if (114052 : Int) = c then 6 else if (664683 : Int) = c then 5 else if (1589657 : Int) = c then 4 else if (24716933 : Int) = c then 3 else if (206220 : Int) = c then 2 else if (409067 : Int) = c then 1 else if (7348 : Int) = c then 0 else (-1 : Int)) = kdF c
  unfold kdF
  (repeat' split) <;> omega
theorem wcd_s {a j : Int} (h : a ≤ j) : (j - a < 8 → 32 * wcd T a j + T j - 97 + 1 = wcd T a (j + 1)) ∧ (8 ≤ j - a → -1 = wcd T a (j + 1)) := by
  constructor
  · intro q
    unfold wcd
    rw [if_pos (by omega), if_pos (by omega), show (j + 1 - a).toNat = (j - a).toNat + 1 by omega]
    show _ = 32 * wnN T a (j - a).toNat + (T (a + ((j - a).toNat : Int)) - 96)
    rw [show a + ((j - a).toNat : Int) = j by omega]
    omega
  · intro q
    unfold wcd
    rw [if_neg (by omega)]
theorem wcd_0 {a : Int} : wcd T a a = 0 := by
  unfold wcd
  rw [if_pos (by omega), show (a - a).toNat = 0 by omega]
  rfl
set_option maxHeartbeats 1000000 in
theorem lp_rw {a : Int} (m51 : h[51]? = some c51) (m54 : h[54]? = some (oI 160 T)) (hT : ∀ j, 0 ≤ T j ∧ T j < 256) (hl : ln ≤ 160) (h0 : 0 ≤ a) : ∀ (m : Nat) (j : Int), j + m = ln → a ≤ j → Q (some (vL (wcd T a (weL T m j)))) (h.set 51 (oO 7 (mF dn km ln (weL T m j) ft ac mn om fw mo un ik))) → Wp X kX7_word 7 [some (vR 51), some (vL (wcd T a j)), none, some (vI a)] [] (h.set 51 (oO 7 (mF dn km ln j ft ac mn om fw mo un ik))) b Q := by
  intro m
  induction m with
  | zero =>
    intro j q1 q2 hQ
    refine wp_aload_n dX7_word_7 rfl ?_
    refine wp_getf dX7_word_8 fX7_221 (gs_eq (gs_lt m51)) rfl ?_
    refine wp_aload_n dX7_word_11 rfl ?_
    refine wp_getf dX7_word_12 fX7_218 (gs_eq (gs_lt m51)) rfl ?_
    refine wp_icmp_ge 93 dX7_word_15 rfl (by first | assumption | (have := hT j; unfold r32; omega) | (unfold r32; omega)) (by first | assumption | (have := hT j; unfold r32; omega) | (unfold r32; omega)) (fun c15 => ?_) (fun c15 => ?_)
    · refine wp_lload_n dX7_word_93 rfl ?_
      exact wp_lret dX7_word_94 rfl hQ
    · exfalso; omega
  | succ m ih =>
    intro j q1 q2 hQ
    have tj := hT j
    have ws := wcd_s (T := T) q2
    unfold weL at hQ
    refine wp_aload_n dX7_word_7 rfl ?_
    refine wp_getf dX7_word_8 fX7_221 (gs_eq (gs_lt m51)) rfl ?_
    refine wp_aload_n dX7_word_11 rfl ?_
    refine wp_getf dX7_word_12 fX7_218 (gs_eq (gs_lt m51)) rfl ?_
    refine wp_icmp_ge 93 dX7_word_15 rfl (by first | assumption | (have := hT j; unfold r32; omega) | (unfold r32; omega)) (by first | assumption | (have := hT j; unfold r32; omega) | (unfold r32; omega)) (fun c15 => ?_) (fun c15 => ?_)
    · refine wp_lload_n dX7_word_93 rfl ?_
      exact wp_lret dX7_word_94 rfl (by (repeat' split at hQ) <;> first | (exfalso; omega) | exact hQ)
    · refine wp_aload_n dX7_word_18 rfl ?_
      refine wp_getf dX7_word_19 fX7_16 (gs_eq (gs_lt m51)) rfl ?_
      refine wp_aload_n dX7_word_22 rfl ?_
      refine wp_getf dX7_word_23 fX7_221 (gs_eq (gs_lt m51)) rfl ?_
      refine wp_iav (v := T j) dX7_word_26 (gs_ne (by decide) m54) (by decide) (by omega) rfl ?_
      refine wp_i2l dX7_word_27 (by first | assumption | (have := hT j; unfold r32; omega) | (unfold r32; omega)) ?_
      refine wp_ldc2 dX7_word_28 cX7_239 ?_
      refine wp_ldc2 dX7_word_31 cX7_241 ?_
      refine wp_is3 dX7_word_34 SX7_in lX7_94 (rq0 rfl rfl) (Nat.le_of_ble_eq_true rfl) (C_in (by first | assumption | exact r64_of (hR _) | (unfold r64; omega)) (by first | assumption | exact r64_of (hR _) | (unfold r64; omega)) (by first | assumption | exact r64_of (hR _) | (unfold r64; omega)) ?_)
      dsimp only [pushR]
      refine wp_beq 93 dX7_word_37 rfl (fun c37 => ?_) (fun c37 => ?_)
      · refine wp_lload_n dX7_word_93 rfl ?_
        exact wp_lret dX7_word_94 rfl (by (repeat' split at hQ) <;> first | (exfalso; omega) | exact hQ)
      · refine wp_aload_n dX7_word_40 rfl ?_
        refine wp_getf dX7_word_41 fX7_221 (gs_eq (gs_lt m51)) rfl ?_
        refine wp_iload_n dX7_word_44 rfl ?_
        refine wp_isub dX7_word_45 ?_
        refine wp_bipush dX7_word_46 rfl ?_
        refine wp_icmp_ge 76 dX7_word_48 rfl (by first | assumption | (have := hT j; unfold r32; omega) | (unfold r32; omega)) ⟨by omega, by omega⟩ (fun c48 => ?_) (fun c48 => ?_)
        · refine wp_ldc2 dX7_word_76 cX7_201 ?_
          refine wp_lstore_n (L' := [some (vR 51), some (vL (-1)), none, some (vI a)]) dX7_word_79 (by decide) rfl ?_
          refine wp_aload_n dX7_word_80 rfl ?_
          refine wp_dup dX7_word_81 rfl ?_
          refine wp_getf dX7_word_82 fX7_221 (gs_eq (gs_lt m51)) rfl ?_
          refine wp_iconst dX7_word_85 ?_
          refine wp_iadd dX7_word_86 ?_
          refine wp_putv (fs' := mF dn km ln (j + 1) ft ac mn om fw mo un ik) dX7_word_87 (pX7_221 rfl) (gs_eq (gs_lt m51)) (Nat.le_of_ble_eq_true rfl) (fitF_int _) rfl ?_
          refine wp_goto 7 dX7_word_90 rfl ?_
          rw [List.set_set]
          rw [if_pos (by omega), if_pos (by omega)] at hQ
          rw [show (-1) = wcd T a (j + 1) from ws.2 (by omega)]
          exact ih (j + 1) (by omega) (by omega) hQ
        · refine wp_ldc2 dX7_word_51 cX7_243 ?_
          refine wp_lload_n dX7_word_54 rfl ?_
          refine wp_lmul dX7_word_55 ?_
          refine wp_aload_n dX7_word_56 rfl ?_
          refine wp_getf dX7_word_57 fX7_16 (gs_eq (gs_lt m51)) rfl ?_
          refine wp_aload_n dX7_word_60 rfl ?_
          refine wp_getf dX7_word_61 fX7_221 (gs_eq (gs_lt m51)) rfl ?_
          refine wp_iav (v := T j) dX7_word_64 (gs_ne (by decide) m54) (by decide) (by omega) rfl ?_
          refine wp_i2l dX7_word_65 (by first | assumption | (have := hT j; unfold r32; omega) | (unfold r32; omega)) ?_
          refine wp_ladd dX7_word_66 ?_
          refine wp_ldc2 dX7_word_67 cX7_239 ?_
          refine wp_lsub dX7_word_70 ?_
          refine wp_lconst (z := 1) dX7_word_71 rfl ?_
          refine wp_ladd dX7_word_72 ?_
          refine wp_goto 79 dX7_word_73 rfl ?_
          refine wp_lstore_n (L' := [some (vR 51), some (vL (32 * wcd T a j + T j - 97 + 1)), none, some (vI a)]) dX7_word_79 (by decide) rfl ?_
          refine wp_aload_n dX7_word_80 rfl ?_
          refine wp_dup dX7_word_81 rfl ?_
          refine wp_getf dX7_word_82 fX7_221 (gs_eq (gs_lt m51)) rfl ?_
          refine wp_iconst dX7_word_85 ?_
          refine wp_iadd dX7_word_86 ?_
          refine wp_putv (fs' := mF dn km ln (j + 1) ft ac mn om fw mo un ik) dX7_word_87 (pX7_221 rfl) (gs_eq (gs_lt m51)) (Nat.le_of_ble_eq_true rfl) (fitF_int _) rfl ?_
          refine wp_goto 7 dX7_word_90 rfl ?_
          rw [List.set_set]
          rw [if_pos (by omega), if_pos (by omega)] at hQ
          rw [show 32 * wcd T a j + T j - 97 + 1 = wcd T a (j + 1) from ws.1 (by omega)]
          exact ih (j + 1) (by omega) (by omega) hQ
theorem C_rword {a : Int} (m51 : h[51]? = some c51) (m54 : h[54]? = some (oI 160 T)) (hT : ∀ j, 0 ≤ T j ∧ T j < 256) (hl : ln ≤ 160) (ha : 0 ≤ a ∧ a ≤ ln) (hQ : Q (some (vL (wcd T a (wE T ln a)))) (h.set 51 (oO 7 (mF dn km ln (wE T ln a) ft ac mn om fw mo un ik)))) : Cl X kX7_word [vR 51] (h.set 51 (oO 7 (mF dn km ln a ft ac mn om fw mo un ik))) Q := by
  refine cl_of rfl (Nat.le_of_ble_eq_true rfl) rfl ?_
  refine wp_lconst (z := 0) dX7_word_0 rfl ?_
  refine wp_lstore_n (L' := [some (vR 51), some (vL 0), none, none]) dX7_word_1 (by decide) rfl ?_
  refine wp_aload_n dX7_word_2 rfl ?_
  refine wp_getf dX7_word_3 fX7_221 (gs_eq (gs_lt m51)) rfl ?_
  refine wp_istore_n (L' := [some (vR 51), some (vL 0), none, some (vI a)]) dX7_word_6 (by decide) rfl ?_
  rw [← wcd_0 (T := T) (a := a)]
  exact lp_rw m51 m54 hT hl ha.1 (ln - a).toNat a (by omega) (by omega) hQ
set_option maxHeartbeats 1000000 in
theorem lp_vb {n st c : Int} (m51 : h[51]? = some (oO 7 (mF dn km ln i ft ac mn om fw mo un ik))) (m58 : h[58]? = some (oL 8 vf)) (hv : ∀ k : Nat, k < 8 → vf k = vb k) (rc : r64 c) : ∀ (m k : Nat), k + m = 8 → Wp X kX7_readsAct 53 [some (vR 51), some (vI n), some (vI st), some (vL c), none, some (vI (kdL c 8)), some (vI 8)] [] h b Q → Wp X kX7_readsAct 16 [some (vR 51), some (vI n), some (vI st), some (vL c), none, some (vI (kdL c k)), some (vI (k : Int))] [] h b Q := by
  intro m
  induction m with
  | zero =>
    intro k q1 hQ
    have e : k = 8 := by omega
    subst e
    refine wp_iload dX7_readsAct_16 rfl ?_
    refine wp_aload_n dX7_readsAct_18 rfl ?_
    refine wp_getf dX7_readsAct_19 fX7_44 m51 rfl ?_
    refine wp_alen dX7_readsAct_22 m58 rfl ?_
    refine wp_icmp_ge 53 dX7_readsAct_23 rfl (by first | assumption | (unfold r32; omega)) (by first | assumption | (unfold r32; omega)) (fun c23 => ?_) (fun c23 => ?_)
    · exact hQ
    · exfalso; omega
  | succ m ih =>
    intro k q1 hQ
    have hk : k < 8 := by omega
    have ev := hv k hk
    have rv : r64 (vf (k : Int)) := by
      rw [ev]
      rcases (by omega : k = 0 ∨ k = 1 ∨ k = 2 ∨ k = 3 ∨ k = 4 ∨ k = 5 ∨ k = 6 ∨ k = 7) with rfl | rfl | rfl | rfl | rfl | rfl | rfl | rfl <;> decide
    have ih1 := ih (k + 1) (by omega) hQ
    unfold kdL at ih1
    refine wp_iload dX7_readsAct_16 rfl ?_
    refine wp_aload_n dX7_readsAct_18 rfl ?_
    refine wp_getf dX7_readsAct_19 fX7_44 m51 rfl ?_
    refine wp_alen dX7_readsAct_22 m58 rfl ?_
    refine wp_icmp_ge 53 dX7_readsAct_23 rfl (by first | assumption | (unfold r32; omega)) (by first | assumption | (unfold r32; omega)) (fun c23 => ?_) (fun c23 => ?_)
    · exfalso; omega
    · refine wp_aload_n dX7_readsAct_26 rfl ?_
      refine wp_getf dX7_readsAct_27 fX7_44 m51 rfl ?_
      refine wp_iload dX7_readsAct_30 rfl ?_
      refine wp_lav (v := vf (k : Int)) dX7_readsAct_32 m58 (by decide) (by omega) rfl ?_
      refine wp_lload_n dX7_readsAct_33 rfl ?_
      refine wp_lc_ne 43 dX7_readsAct_34 dX7_readsAct_35 rfl (by first | assumption | (unfold r64; omega)) (by first | assumption | (unfold r64; omega)) (fun c35 => ?_) (fun c35 => ?_)
      · refine wp_iload dX7_readsAct_43 rfl ?_
        refine wp_istore (L' := [some (vR 51), some (vI n), some (vI st), some (vL c), none, some (vI (kdL c k)), some (vI (k : Int))]) dX7_readsAct_45 (by decide) rfl ?_
        refine wp_iinc (L' := [some (vR 51), some (vI n), some (vI st), some (vL c), none, some (vI (kdL c k)), some (vI ((k : Int) + 1))]) dX7_readsAct_47 rfl rfl ?_
        refine wp_goto 16 dX7_readsAct_50 rfl ?_
        rw [if_neg (by omega)] at ih1
        exact ih1
      · refine wp_iload dX7_readsAct_38 rfl ?_
        refine wp_goto 45 dX7_readsAct_40 rfl ?_
        refine wp_istore (L' := [some (vR 51), some (vI n), some (vI st), some (vL c), none, some (vI (k : Int)), some (vI (k : Int))]) dX7_readsAct_45 (by decide) rfl ?_
        refine wp_iinc (L' := [some (vR 51), some (vI n), some (vI st), some (vL c), none, some (vI (k : Int)), some (vI ((k : Int) + 1))]) dX7_readsAct_47 rfl rfl ?_
        refine wp_goto 16 dX7_readsAct_50 rfl ?_
        rw [if_pos (by omega)] at ih1
        exact ih1
set_option maxHeartbeats 4000000 in
theorem C_readsAct (ht : RPL h0 h dn km ln i (-1) ac mn om fw mo un ik D) (h54 : h0[54]? = some (oI 160 T)) (h58 : h0[58]? = some (oL 8 vf)) (hv : ∀ k : Nat, k < 8 → vf k = vb k) (hT : ∀ j, 0 ≤ T j ∧ T j < 256) (hi : 0 ≤ i ∧ i ≤ ln ∧ ln ≤ 160) (hn : 0 ≤ n ∧ n < 5) (hQ1 : (acS T ln i).1 = -1 → ∀ h' D', RPL h0 h' dn km ln (acS T ln i).2.2.1 (-1) ac mn om fw mo un ik D' → (∀ j, j < 3 * n → D' j = D j) → D' (3 * n) = (acS T ln i).2.1 → ((acS T ln i).2.1 ≠ 1 → (acS T ln i).2.1 ≠ 2 → D' (3 * n + 1) = (acS T ln i).2.2.2.1) → ((acS T ln i).2.1 = 3 → D' (3 * n + 2) = (acS T ln i).2.2.2.2) → Q none h') (hQ0 : 0 ≤ (acS T ln i).1 → ∀ h' D' a', 0 ≤ a' ∧ a' ≤ ln → RPL h0 h' dn km ln a' (acS T ln i).1 ac mn om fw mo un ik D' → Q none h') : Cl X kX7_readsAct [vR 51, vI n] h Q := by
  refine cl_of rfl (Nat.le_of_ble_eq_true rfl) rfl ?_
  obtain ⟨t1, t2, t51, t55⟩ := id ht
  have t54 : h[54]? = some (oI 160 T) := (t2 54 (by decide) (by decide)).trans h54
  have t58 : h[58]? = some (oL 8 vf) := (t2 58 (by decide) (by decide)).trans h58
  have wb := wE_b (T := T) hi
  have hlet : ∀ j, i ≤ j → j < (wE T ln i) → 97 ≤ T j ∧ T j ≤ 122 := fun j q1 q2 => weL_let (ln - i).toNat i j q1 q2
  have cr := wcd_r wb.1 hlet
  have kb := kdF_b (wcd T i (wE T ln i))
  have xb := acS_bd (T := T) hi
  refine wp_aload_n dX7_readsAct_0 rfl ?_
  refine wp_getf dX7_readsAct_1 fX7_221 t51 rfl ?_
  refine wp_istore_n (L' := [some (vR 51), some (vI n), some (vI i), none, none, none, none]) dX7_readsAct_4 (by decide) rfl ?_
  refine wp_aload_n dX7_readsAct_5 rfl ?_
  refine wp_iv0 dX7_readsAct_6 VX7_word lX7_245 t51 (rq0 rfl rfl) (Nat.le_of_ble_eq_true rfl) (sa_of t51 (C_rword t51 t54 hT hi.2.2 (by omega) ?_))
  dsimp only [pushR]
  refine wp_lstore_n (L' := [some (vR 51), some (vI n), some (vI i), some (vL (wcd T i (wE T ln i))), none, none, none]) dX7_readsAct_9 (by decide) rfl ?_
  refine wp_iconst dX7_readsAct_10 ?_
  refine wp_istore (L' := [some (vR 51), some (vI n), some (vI i), some (vL (wcd T i (wE T ln i))), none, some (vI (-1)), none]) dX7_readsAct_11 (by decide) rfl ?_
  refine wp_iconst dX7_readsAct_13 ?_
  refine wp_istore (L' := [some (vR 51), some (vI n), some (vI i), some (vL (wcd T i (wE T ln i))), none, some (vI (-1)), some (vI 0)]) dX7_readsAct_14 (by decide) rfl ?_
  refine lp_vb (gs_eq (gs_lt t51)) (gs_ne (by decide) t58) hv (by unfold r64; omega) 8 0 (by omega) ?_
  rw [kdL_eq]
  refine wp_iload dX7_readsAct_53 rfl ?_
  refine wp_iconst dX7_readsAct_55 ?_
  refine wp_icmp_ne 65 dX7_readsAct_56 rfl (by first | assumption | (unfold r32; omega)) ⟨by omega, by omega⟩ (fun c56 => ?_) (fun c56 => ?_)
  · refine wp_aload_n dX7_readsAct_65 rfl ?_
    refine wp_getf dX7_readsAct_66 fX7_19 (gs_eq (gs_lt t51)) rfl ?_
    refine wp_iconst dX7_readsAct_69 ?_
    refine wp_iload_n dX7_readsAct_70 rfl ?_
    refine wp_imul dX7_readsAct_71 ?_
    refine wp_iload dX7_readsAct_72 rfl ?_
    refine wp_isv dX7_readsAct_74 (gs_ne (by decide) t55) (by decide) (by omega) ?_
    refine wp_iload dX7_readsAct_75 rfl ?_
    refine wp_if_eq 86 dX7_readsAct_77 rfl (by first | assumption | (unfold r32; omega)) (fun c77 => ?_) (fun c77 => ?_)
    · refine wp_aload_n dX7_readsAct_86 rfl ?_
      refine wp_getf dX7_readsAct_87 fX7_19 (gs_ne (by decide) (gs_eq (gs_lt t51))) rfl ?_
      refine wp_iconst dX7_readsAct_90 ?_
      refine wp_iload_n dX7_readsAct_91 rfl ?_
      refine wp_imul dX7_readsAct_92 ?_
      refine wp_iconst dX7_readsAct_93 ?_
      refine wp_iadd dX7_readsAct_94 ?_
      refine wp_aload_n dX7_readsAct_95 rfl ?_
      refine wp_iconst dX7_readsAct_96 ?_
      refine wp_bipush dX7_readsAct_97 rfl ?_
      refine wp_iv2 dX7_readsAct_99 VX7_number lX7_249 (gs_ne (by decide) (gs_eq (gs_lt t51))) (rq0 rfl rfl) (Nat.le_of_ble_eq_true rfl) (sa_of (gs_ne (by decide) (gs_eq (gs_lt t51))) (C_rnumber (gs_ne (by decide) (gs_eq (gs_lt t51))) (gs_ne (by decide) (gs_ne (by decide) t54)) hT hi.2.2 (by omega) (by unfold r32; omega) (by unfold r32; omega) (by unfold r32; omega) (fun z => absurd z (by omega)) (fun _ ok1 => ?_) (fun _ ok1 v1 a1 ha1 => ?_)))
      · dsimp only [pushR]
        have nb1 := nm_b (T := T) (ln := ln) (i := (wE T ln i)) ok1.1.1
        refine wp_isv dX7_readsAct_102 (gs_ne (by decide) (gs_eq (gs_l (gs_lt t55)))) (by decide) (by omega) ?_
        refine wp_aload_n dX7_readsAct_103 rfl ?_
        refine wp_getf dX7_readsAct_104 fX7_19 (gs_ne (by decide) (gs_eq (gs_l (gs_l (gs_lt t51))))) rfl ?_
        refine wp_iconst dX7_readsAct_107 ?_
        refine wp_iload_n dX7_readsAct_108 rfl ?_
        refine wp_imul dX7_readsAct_109 ?_
        refine wp_iconst dX7_readsAct_110 ?_
        refine wp_iadd dX7_readsAct_111 ?_
        refine wp_iload dX7_readsAct_112 rfl ?_
        refine wp_iconst dX7_readsAct_114 ?_
        refine wp_icmp_ne 129 dX7_readsAct_115 rfl (by first | assumption | (unfold r32; omega)) ⟨by omega, by omega⟩ (fun c115 => ?_) (fun c115 => ?_)
        · refine wp_iconst dX7_readsAct_129 ?_
          refine wp_isv dX7_readsAct_130 (gs_eq (gs_l (gs_l (gs_l (gs_lt t55))))) (by decide) (by omega) ?_
          refine wp_goto 215 dX7_readsAct_131 rfl ?_
          exact wp_ret dX7_readsAct_215 rfl (by
              have ea : acS T ln i = (-1, (kdF (wcd T i (wE T ln i))), (nmE T ln (wE T ln i)), (nmV T ln (wE T ln i)), 0) := by first | (exfalso; omega) | exact acS_1 (by omega) | exact acS_3 (by omega) ok1 ok2 | exact acS_2 (by omega) (by omega) (by omega) (by omega) (by have e1 : loK (kdF (wcd T i (wE T ln i))) = _ := (by unfold loK; (repeat' split) <;> omega : loK (kdF (wcd T i (wE T ln i))) = 0); have e2 : hiK (kdF (wcd T i (wE T ln i))) = _ := (by unfold hiK; (repeat' split) <;> omega : hiK (kdF (wcd T i (wE T ln i))) = 9); rw [e1, e2]; exact ok1) | exact acS_2 (by omega) (by omega) (by omega) (by omega) (by have e1 : loK (kdF (wcd T i (wE T ln i))) = _ := (by unfold loK; (repeat' split) <;> omega : loK (kdF (wcd T i (wE T ln i))) = 0); have e2 : hiK (kdF (wcd T i (wE T ln i))) = _ := (by unfold hiK; (repeat' split) <;> omega : hiK (kdF (wcd T i (wE T ln i))) = 2); rw [e1, e2]; exact ok1) | exact acS_2 (by omega) (by omega) (by omega) (by omega) (by have e1 : loK (kdF (wcd T i (wE T ln i))) = _ := (by unfold loK; (repeat' split) <;> omega : loK (kdF (wcd T i (wE T ln i))) = 1); have e2 : hiK (kdF (wcd T i (wE T ln i))) = _ := (by unfold hiK; (repeat' split) <;> omega : hiK (kdF (wcd T i (wE T ln i))) = 50); rw [e1, e2]; exact ok1) | exact acS_2 (by omega) (by omega) (by omega) (by omega) (by have e1 : loK (kdF (wcd T i (wE T ln i))) = _ := (by unfold loK; (repeat' split) <;> omega : loK (kdF (wcd T i (wE T ln i))) = 0); have e2 : hiK (kdF (wcd T i (wE T ln i))) = _ := (by unfold hiK; (repeat' split) <;> omega : hiK (kdF (wcd T i (wE T ln i))) = 5); rw [e1, e2]; exact ok1)
              rw [ea] at hQ1
              dsimp only at hQ1
              exact hQ1 rfl _ _ ⟨by simp only [List.length_set]; exact t1, fun j q51 q55 => by (repeat rw [List.getElem?_set_ne (by omega)]); exact t2 j q51 q55, (gs_ne (by decide) (gs_ne (by decide) (gs_eq (gs_l (gs_l (gs_lt t51)))))), (gs_eq (gs_l (gs_l (gs_l (gs_l (gs_lt t55))))))⟩ (fun j hj => by (repeat rw [ud_ne (by omega)])) (by rw [ud_ne (by omega), ud_ne (by omega), ud_eq]) (fun n1 n2 => (by first | (exfalso; omega) | rw [ud_ne (by omega), ud_eq])) (fun n3 => (by first | (exfalso; omega) | rw [ud_eq])))
        · refine wp_aload_n dX7_readsAct_118 rfl ?_
          refine wp_iconst dX7_readsAct_119 ?_
          refine wp_sipush dX7_readsAct_120 rfl ?_
          refine wp_iv2 dX7_readsAct_123 VX7_number lX7_249 (gs_ne (by decide) (gs_eq (gs_l (gs_l (gs_lt t51))))) (rq0 rfl rfl) (Nat.le_of_ble_eq_true rfl) (sa_of (gs_ne (by decide) (gs_eq (gs_l (gs_l (gs_lt t51))))) (C_rnumber (gs_ne (by decide) (gs_eq (gs_l (gs_l (gs_lt t51))))) (gs_ne (by decide) (gs_ne (by decide) (gs_ne (by decide) (gs_ne (by decide) t54)))) hT hi.2.2 (by omega) (by unfold r32; omega) (by unfold r32; omega) (by unfold r32; omega) (fun z => absurd z (by omega)) (fun _ ok2 => ?_) (fun _ ok2 v2 a2 ha2 => ?_)))
          · dsimp only [pushR]
            have nb2 := nm_b (T := T) (ln := ln) (i := (nmE T ln (wE T ln i))) ok2.1.1
            refine wp_goto 130 dX7_readsAct_126 rfl ?_
            refine wp_isv dX7_readsAct_130 (gs_ne (by decide) (gs_eq (gs_l (gs_l (gs_l (gs_lt t55)))))) (by decide) (by omega) ?_
            refine wp_goto 215 dX7_readsAct_131 rfl ?_
            exact wp_ret dX7_readsAct_215 rfl (by
                have ea : acS T ln i = (-1, (kdF (wcd T i (wE T ln i))), (nmE T ln (nmE T ln (wE T ln i))), (nmV T ln (wE T ln i)), (nmV T ln (nmE T ln (wE T ln i)))) := by first | (exfalso; omega) | exact acS_1 (by omega) | exact acS_3 (by omega) ok1 ok2 | exact acS_2 (by omega) (by omega) (by omega) (by omega) (by have e1 : loK (kdF (wcd T i (wE T ln i))) = _ := (by unfold loK; (repeat' split) <;> omega : loK (kdF (wcd T i (wE T ln i))) = 0); have e2 : hiK (kdF (wcd T i (wE T ln i))) = _ := (by unfold hiK; (repeat' split) <;> omega : hiK (kdF (wcd T i (wE T ln i))) = 9); rw [e1, e2]; exact ok1) | exact acS_2 (by omega) (by omega) (by omega) (by omega) (by have e1 : loK (kdF (wcd T i (wE T ln i))) = _ := (by unfold loK; (repeat' split) <;> omega : loK (kdF (wcd T i (wE T ln i))) = 0); have e2 : hiK (kdF (wcd T i (wE T ln i))) = _ := (by unfold hiK; (repeat' split) <;> omega : hiK (kdF (wcd T i (wE T ln i))) = 2); rw [e1, e2]; exact ok1) | exact acS_2 (by omega) (by omega) (by omega) (by omega) (by have e1 : loK (kdF (wcd T i (wE T ln i))) = _ := (by unfold loK; (repeat' split) <;> omega : loK (kdF (wcd T i (wE T ln i))) = 1); have e2 : hiK (kdF (wcd T i (wE T ln i))) = _ := (by unfold hiK; (repeat' split) <;> omega : hiK (kdF (wcd T i (wE T ln i))) = 50); rw [e1, e2]; exact ok1) | exact acS_2 (by omega) (by omega) (by omega) (by omega) (by have e1 : loK (kdF (wcd T i (wE T ln i))) = _ := (by unfold loK; (repeat' split) <;> omega : loK (kdF (wcd T i (wE T ln i))) = 0); have e2 : hiK (kdF (wcd T i (wE T ln i))) = _ := (by unfold hiK; (repeat' split) <;> omega : hiK (kdF (wcd T i (wE T ln i))) = 5); rw [e1, e2]; exact ok1)
                rw [ea] at hQ1
                dsimp only at hQ1
                exact hQ1 rfl _ _ ⟨by simp only [List.length_set]; exact t1, fun j q51 q55 => by (repeat rw [List.getElem?_set_ne (by omega)]); exact t2 j q51 q55, (gs_ne (by decide) (gs_eq (gs_l (gs_l (gs_l (gs_l (gs_lt t51))))))), (gs_eq (gs_l (gs_l (gs_l (gs_l (gs_l (gs_lt t55)))))))⟩ (fun j hj => by (repeat rw [ud_ne (by omega)])) (by rw [ud_ne (by omega), ud_ne (by omega), ud_eq]) (fun n1 n2 => (by first | (exfalso; omega) | rw [ud_ne (by omega), ud_eq])) (fun n3 => (by first | (exfalso; omega) | rw [ud_eq])))
          · dsimp only [pushR]
            have nx2 := nmX_b (T := T) (ln := ln) (i := (nmE T ln (wE T ln i))) (by omega)
            refine wp_goto 130 dX7_readsAct_126 rfl ?_
            refine wp_isv dX7_readsAct_130 (gs_ne (by decide) (gs_eq (gs_l (gs_l (gs_l (gs_lt t55)))))) (by decide) (by omega) ?_
            refine wp_goto 215 dX7_readsAct_131 rfl ?_
            exact wp_ret dX7_readsAct_215 rfl (by
                have ea : acS T ln i = ((nmX T ln (nmE T ln (wE T ln i))), -1, i, 0, 0) := by first | (exfalso; omega) | exact acS_3b (by omega) ok1 ok2 | exact acS_b (by omega) (by omega) (by omega) (by have e1 : loK (kdF (wcd T i (wE T ln i))) = _ := (by unfold loK; (repeat' split) <;> omega : loK (kdF (wcd T i (wE T ln i))) = 0); have e2 : hiK (kdF (wcd T i (wE T ln i))) = _ := (by unfold hiK; (repeat' split) <;> omega : hiK (kdF (wcd T i (wE T ln i))) = 9); rw [e1, e2]; exact ok1) | exact acS_b (by omega) (by omega) (by omega) (by have e1 : loK (kdF (wcd T i (wE T ln i))) = _ := (by unfold loK; (repeat' split) <;> omega : loK (kdF (wcd T i (wE T ln i))) = 0); have e2 : hiK (kdF (wcd T i (wE T ln i))) = _ := (by unfold hiK; (repeat' split) <;> omega : hiK (kdF (wcd T i (wE T ln i))) = 2); rw [e1, e2]; exact ok1) | exact acS_b (by omega) (by omega) (by omega) (by have e1 : loK (kdF (wcd T i (wE T ln i))) = _ := (by unfold loK; (repeat' split) <;> omega : loK (kdF (wcd T i (wE T ln i))) = 1); have e2 : hiK (kdF (wcd T i (wE T ln i))) = _ := (by unfold hiK; (repeat' split) <;> omega : hiK (kdF (wcd T i (wE T ln i))) = 50); rw [e1, e2]; exact ok1) | exact acS_b (by omega) (by omega) (by omega) (by have e1 : loK (kdF (wcd T i (wE T ln i))) = _ := (by unfold loK; (repeat' split) <;> omega : loK (kdF (wcd T i (wE T ln i))) = 0); have e2 : hiK (kdF (wcd T i (wE T ln i))) = _ := (by unfold hiK; (repeat' split) <;> omega : hiK (kdF (wcd T i (wE T ln i))) = 5); rw [e1, e2]; exact ok1)
                rw [ea] at hQ0
                dsimp only at hQ0
                exact hQ0 (by omega) _ _ a2 (by omega) ⟨by simp only [List.length_set]; exact t1, fun j q51 q55 => by (repeat rw [List.getElem?_set_ne (by omega)]); exact t2 j q51 q55, (gs_ne (by decide) (gs_eq (gs_l (gs_l (gs_l (gs_l (gs_lt t51))))))), (gs_eq (gs_l (gs_l (gs_l (gs_l (gs_l (gs_lt t55)))))))⟩)
      · dsimp only [pushR]
        have nx1 := nmX_b (T := T) (ln := ln) (i := (wE T ln i)) (by omega)
        refine wp_isv dX7_readsAct_102 (gs_ne (by decide) (gs_eq (gs_l (gs_lt t55)))) (by decide) (by omega) ?_
        refine wp_aload_n dX7_readsAct_103 rfl ?_
        refine wp_getf dX7_readsAct_104 fX7_19 (gs_ne (by decide) (gs_eq (gs_l (gs_l (gs_lt t51))))) rfl ?_
        refine wp_iconst dX7_readsAct_107 ?_
        refine wp_iload_n dX7_readsAct_108 rfl ?_
        refine wp_imul dX7_readsAct_109 ?_
        refine wp_iconst dX7_readsAct_110 ?_
        refine wp_iadd dX7_readsAct_111 ?_
        refine wp_iload dX7_readsAct_112 rfl ?_
        refine wp_iconst dX7_readsAct_114 ?_
        refine wp_icmp_ne 129 dX7_readsAct_115 rfl (by first | assumption | (unfold r32; omega)) ⟨by omega, by omega⟩ (fun c115 => ?_) (fun c115 => ?_)
        · refine wp_iconst dX7_readsAct_129 ?_
          refine wp_isv dX7_readsAct_130 (gs_eq (gs_l (gs_l (gs_l (gs_lt t55))))) (by decide) (by omega) ?_
          refine wp_goto 215 dX7_readsAct_131 rfl ?_
          exact wp_ret dX7_readsAct_215 rfl (by
              have ea : acS T ln i = ((nmX T ln (wE T ln i)), -1, i, 0, 0) := by first | (exfalso; omega) | exact acS_3b (by omega) ok1 ok2 | exact acS_b (by omega) (by omega) (by omega) (by have e1 : loK (kdF (wcd T i (wE T ln i))) = _ := (by unfold loK; (repeat' split) <;> omega : loK (kdF (wcd T i (wE T ln i))) = 0); have e2 : hiK (kdF (wcd T i (wE T ln i))) = _ := (by unfold hiK; (repeat' split) <;> omega : hiK (kdF (wcd T i (wE T ln i))) = 9); rw [e1, e2]; exact ok1) | exact acS_b (by omega) (by omega) (by omega) (by have e1 : loK (kdF (wcd T i (wE T ln i))) = _ := (by unfold loK; (repeat' split) <;> omega : loK (kdF (wcd T i (wE T ln i))) = 0); have e2 : hiK (kdF (wcd T i (wE T ln i))) = _ := (by unfold hiK; (repeat' split) <;> omega : hiK (kdF (wcd T i (wE T ln i))) = 2); rw [e1, e2]; exact ok1) | exact acS_b (by omega) (by omega) (by omega) (by have e1 : loK (kdF (wcd T i (wE T ln i))) = _ := (by unfold loK; (repeat' split) <;> omega : loK (kdF (wcd T i (wE T ln i))) = 1); have e2 : hiK (kdF (wcd T i (wE T ln i))) = _ := (by unfold hiK; (repeat' split) <;> omega : hiK (kdF (wcd T i (wE T ln i))) = 50); rw [e1, e2]; exact ok1) | exact acS_b (by omega) (by omega) (by omega) (by have e1 : loK (kdF (wcd T i (wE T ln i))) = _ := (by unfold loK; (repeat' split) <;> omega : loK (kdF (wcd T i (wE T ln i))) = 0); have e2 : hiK (kdF (wcd T i (wE T ln i))) = _ := (by unfold hiK; (repeat' split) <;> omega : hiK (kdF (wcd T i (wE T ln i))) = 5); rw [e1, e2]; exact ok1)
              rw [ea] at hQ0
              dsimp only at hQ0
              exact hQ0 (by omega) _ _ a1 (by omega) ⟨by simp only [List.length_set]; exact t1, fun j q51 q55 => by (repeat rw [List.getElem?_set_ne (by omega)]); exact t2 j q51 q55, (gs_ne (by decide) (gs_ne (by decide) (gs_eq (gs_l (gs_l (gs_lt t51)))))), (gs_eq (gs_l (gs_l (gs_l (gs_l (gs_lt t55))))))⟩)
        · refine wp_aload_n dX7_readsAct_118 rfl ?_
          refine wp_iconst dX7_readsAct_119 ?_
          refine wp_sipush dX7_readsAct_120 rfl ?_
          refine wp_iv2 dX7_readsAct_123 VX7_number lX7_249 (gs_ne (by decide) (gs_eq (gs_l (gs_l (gs_lt t51))))) (rq0 rfl rfl) (Nat.le_of_ble_eq_true rfl) (sa_of (gs_ne (by decide) (gs_eq (gs_l (gs_l (gs_lt t51))))) (C_rnumber (gs_ne (by decide) (gs_eq (gs_l (gs_l (gs_lt t51))))) (gs_ne (by decide) (gs_ne (by decide) (gs_ne (by decide) (gs_ne (by decide) t54)))) hT hi.2.2 (by omega) (by unfold r32; omega) (by unfold r32; omega) (by unfold r32; omega) (fun _ => ?_) (fun z => absurd z (by omega)) (fun z => absurd z (by omega))))
          dsimp only [pushR]
          refine wp_goto 130 dX7_readsAct_126 rfl ?_
          refine wp_isv dX7_readsAct_130 (gs_ne (by decide) (gs_eq (gs_l (gs_l (gs_l (gs_lt t55)))))) (by decide) (by omega) ?_
          refine wp_goto 215 dX7_readsAct_131 rfl ?_
          exact wp_ret dX7_readsAct_215 rfl (by
              have ea : acS T ln i = ((nmX T ln (wE T ln i)), -1, i, 0, 0) := by first | (exfalso; omega) | exact acS_3b (by omega) ok1 ok2 | exact acS_b (by omega) (by omega) (by omega) (by have e1 : loK (kdF (wcd T i (wE T ln i))) = _ := (by unfold loK; (repeat' split) <;> omega : loK (kdF (wcd T i (wE T ln i))) = 0); have e2 : hiK (kdF (wcd T i (wE T ln i))) = _ := (by unfold hiK; (repeat' split) <;> omega : hiK (kdF (wcd T i (wE T ln i))) = 9); rw [e1, e2]; exact ok1) | exact acS_b (by omega) (by omega) (by omega) (by have e1 : loK (kdF (wcd T i (wE T ln i))) = _ := (by unfold loK; (repeat' split) <;> omega : loK (kdF (wcd T i (wE T ln i))) = 0); have e2 : hiK (kdF (wcd T i (wE T ln i))) = _ := (by unfold hiK; (repeat' split) <;> omega : hiK (kdF (wcd T i (wE T ln i))) = 2); rw [e1, e2]; exact ok1) | exact acS_b (by omega) (by omega) (by omega) (by have e1 : loK (kdF (wcd T i (wE T ln i))) = _ := (by unfold loK; (repeat' split) <;> omega : loK (kdF (wcd T i (wE T ln i))) = 1); have e2 : hiK (kdF (wcd T i (wE T ln i))) = _ := (by unfold hiK; (repeat' split) <;> omega : hiK (kdF (wcd T i (wE T ln i))) = 50); rw [e1, e2]; exact ok1) | exact acS_b (by omega) (by omega) (by omega) (by have e1 : loK (kdF (wcd T i (wE T ln i))) = _ := (by unfold loK; (repeat' split) <;> omega : loK (kdF (wcd T i (wE T ln i))) = 0); have e2 : hiK (kdF (wcd T i (wE T ln i))) = _ := (by unfold hiK; (repeat' split) <;> omega : hiK (kdF (wcd T i (wE T ln i))) = 5); rw [e1, e2]; exact ok1)
              rw [ea] at hQ0
              dsimp only at hQ0
              exact hQ0 (by omega) _ _ a1 (by omega) ⟨by simp only [List.length_set]; exact t1, fun j q51 q55 => by (repeat rw [List.getElem?_set_ne (by omega)]); exact t2 j q51 q55, (gs_ne (by decide) (gs_eq (gs_l (gs_l (gs_l (gs_l (gs_lt t51))))))), (gs_eq (gs_l (gs_l (gs_l (gs_l (gs_l (gs_lt t55)))))))⟩)
    · refine wp_iload dX7_readsAct_80 rfl ?_
      refine wp_iconst dX7_readsAct_82 ?_
      refine wp_icmp_ne 134 dX7_readsAct_83 rfl (by first | assumption | (unfold r32; omega)) ⟨by omega, by omega⟩ (fun c83 => ?_) (fun c83 => ?_)
      · refine wp_iload dX7_readsAct_134 rfl ?_
        refine wp_iconst dX7_readsAct_136 ?_
        refine wp_icmp_ne 159 dX7_readsAct_137 rfl (by first | assumption | (unfold r32; omega)) ⟨by omega, by omega⟩ (fun c137 => ?_) (fun c137 => ?_)
        · refine wp_iload dX7_readsAct_159 rfl ?_
          refine wp_iconst dX7_readsAct_161 ?_
          refine wp_icmp_ne 185 dX7_readsAct_162 rfl (by first | assumption | (unfold r32; omega)) ⟨by omega, by omega⟩ (fun c162 => ?_) (fun c162 => ?_)
          · refine wp_iload dX7_readsAct_185 rfl ?_
            refine wp_bipush dX7_readsAct_187 rfl ?_
            refine wp_icmp_eq 199 dX7_readsAct_189 rfl (by first | assumption | (unfold r32; omega)) ⟨by omega, by omega⟩ (fun c189 => ?_) (fun c189 => ?_)
            · refine wp_aload_n dX7_readsAct_199 rfl ?_
              refine wp_getf dX7_readsAct_200 fX7_19 (gs_ne (by decide) (gs_eq (gs_lt t51))) rfl ?_
              refine wp_iconst dX7_readsAct_203 ?_
              refine wp_iload_n dX7_readsAct_204 rfl ?_
              refine wp_imul dX7_readsAct_205 ?_
              refine wp_iconst dX7_readsAct_206 ?_
              refine wp_iadd dX7_readsAct_207 ?_
              refine wp_aload_n dX7_readsAct_208 rfl ?_
              refine wp_iconst dX7_readsAct_209 ?_
              refine wp_iconst dX7_readsAct_210 ?_
              refine wp_iv2 dX7_readsAct_211 VX7_number lX7_249 (gs_ne (by decide) (gs_eq (gs_lt t51))) (rq0 rfl rfl) (Nat.le_of_ble_eq_true rfl) (sa_of (gs_ne (by decide) (gs_eq (gs_lt t51))) (C_rnumber (gs_ne (by decide) (gs_eq (gs_lt t51))) (gs_ne (by decide) (gs_ne (by decide) t54)) hT hi.2.2 (by omega) (by unfold r32; omega) (by unfold r32; omega) (by unfold r32; omega) (fun z => absurd z (by omega)) (fun _ ok1 => ?_) (fun _ ok1 v1 a1 ha1 => ?_)))
              · dsimp only [pushR]
                have nb1 := nm_b (T := T) (ln := ln) (i := (wE T ln i)) ok1.1.1
                refine wp_isv dX7_readsAct_214 (gs_ne (by decide) (gs_eq (gs_l (gs_lt t55)))) (by decide) (by omega) ?_
                exact wp_ret dX7_readsAct_215 rfl (by
                    have ea : acS T ln i = (-1, (kdF (wcd T i (wE T ln i))), (nmE T ln (wE T ln i)), (nmV T ln (wE T ln i)), 0) := by first | (exfalso; omega) | exact acS_1 (by omega) | exact acS_3 (by omega) ok1 ok2 | exact acS_2 (by omega) (by omega) (by omega) (by omega) (by have e1 : loK (kdF (wcd T i (wE T ln i))) = _ := (by unfold loK; (repeat' split) <;> omega : loK (kdF (wcd T i (wE T ln i))) = 0); have e2 : hiK (kdF (wcd T i (wE T ln i))) = _ := (by unfold hiK; (repeat' split) <;> omega : hiK (kdF (wcd T i (wE T ln i))) = 9); rw [e1, e2]; exact ok1) | exact acS_2 (by omega) (by omega) (by omega) (by omega) (by have e1 : loK (kdF (wcd T i (wE T ln i))) = _ := (by unfold loK; (repeat' split) <;> omega : loK (kdF (wcd T i (wE T ln i))) = 0); have e2 : hiK (kdF (wcd T i (wE T ln i))) = _ := (by unfold hiK; (repeat' split) <;> omega : hiK (kdF (wcd T i (wE T ln i))) = 2); rw [e1, e2]; exact ok1) | exact acS_2 (by omega) (by omega) (by omega) (by omega) (by have e1 : loK (kdF (wcd T i (wE T ln i))) = _ := (by unfold loK; (repeat' split) <;> omega : loK (kdF (wcd T i (wE T ln i))) = 1); have e2 : hiK (kdF (wcd T i (wE T ln i))) = _ := (by unfold hiK; (repeat' split) <;> omega : hiK (kdF (wcd T i (wE T ln i))) = 50); rw [e1, e2]; exact ok1) | exact acS_2 (by omega) (by omega) (by omega) (by omega) (by have e1 : loK (kdF (wcd T i (wE T ln i))) = _ := (by unfold loK; (repeat' split) <;> omega : loK (kdF (wcd T i (wE T ln i))) = 0); have e2 : hiK (kdF (wcd T i (wE T ln i))) = _ := (by unfold hiK; (repeat' split) <;> omega : hiK (kdF (wcd T i (wE T ln i))) = 5); rw [e1, e2]; exact ok1)
                    rw [ea] at hQ1
                    dsimp only at hQ1
                    exact hQ1 rfl _ _ ⟨by simp only [List.length_set]; exact t1, fun j q51 q55 => by (repeat rw [List.getElem?_set_ne (by omega)]); exact t2 j q51 q55, (gs_ne (by decide) (gs_eq (gs_l (gs_l (gs_lt t51))))), (gs_eq (gs_l (gs_l (gs_l (gs_lt t55)))))⟩ (fun j hj => by (repeat rw [ud_ne (by omega)])) (by rw [ud_ne (by omega), ud_eq]) (fun n1 n2 => (by first | (exfalso; omega) | rw [ud_eq])) (fun n3 => (by first | (exfalso; omega) | rw [ud_ne (by omega), ud_ne (by omega)])))
              · dsimp only [pushR]
                have nx1 := nmX_b (T := T) (ln := ln) (i := (wE T ln i)) (by omega)
                refine wp_isv dX7_readsAct_214 (gs_ne (by decide) (gs_eq (gs_l (gs_lt t55)))) (by decide) (by omega) ?_
                exact wp_ret dX7_readsAct_215 rfl (by
                    have ea : acS T ln i = ((nmX T ln (wE T ln i)), -1, i, 0, 0) := by first | (exfalso; omega) | exact acS_3b (by omega) ok1 ok2 | exact acS_b (by omega) (by omega) (by omega) (by have e1 : loK (kdF (wcd T i (wE T ln i))) = _ := (by unfold loK; (repeat' split) <;> omega : loK (kdF (wcd T i (wE T ln i))) = 0); have e2 : hiK (kdF (wcd T i (wE T ln i))) = _ := (by unfold hiK; (repeat' split) <;> omega : hiK (kdF (wcd T i (wE T ln i))) = 9); rw [e1, e2]; exact ok1) | exact acS_b (by omega) (by omega) (by omega) (by have e1 : loK (kdF (wcd T i (wE T ln i))) = _ := (by unfold loK; (repeat' split) <;> omega : loK (kdF (wcd T i (wE T ln i))) = 0); have e2 : hiK (kdF (wcd T i (wE T ln i))) = _ := (by unfold hiK; (repeat' split) <;> omega : hiK (kdF (wcd T i (wE T ln i))) = 2); rw [e1, e2]; exact ok1) | exact acS_b (by omega) (by omega) (by omega) (by have e1 : loK (kdF (wcd T i (wE T ln i))) = _ := (by unfold loK; (repeat' split) <;> omega : loK (kdF (wcd T i (wE T ln i))) = 1); have e2 : hiK (kdF (wcd T i (wE T ln i))) = _ := (by unfold hiK; (repeat' split) <;> omega : hiK (kdF (wcd T i (wE T ln i))) = 50); rw [e1, e2]; exact ok1) | exact acS_b (by omega) (by omega) (by omega) (by have e1 : loK (kdF (wcd T i (wE T ln i))) = _ := (by unfold loK; (repeat' split) <;> omega : loK (kdF (wcd T i (wE T ln i))) = 0); have e2 : hiK (kdF (wcd T i (wE T ln i))) = _ := (by unfold hiK; (repeat' split) <;> omega : hiK (kdF (wcd T i (wE T ln i))) = 5); rw [e1, e2]; exact ok1)
                    rw [ea] at hQ0
                    dsimp only at hQ0
                    exact hQ0 (by omega) _ _ a1 (by omega) ⟨by simp only [List.length_set]; exact t1, fun j q51 q55 => by (repeat rw [List.getElem?_set_ne (by omega)]); exact t2 j q51 q55, (gs_ne (by decide) (gs_eq (gs_l (gs_l (gs_lt t51))))), (gs_eq (gs_l (gs_l (gs_l (gs_lt t55)))))⟩)
            · refine wp_iload dX7_readsAct_192 rfl ?_
              refine wp_bipush dX7_readsAct_194 rfl ?_
              refine wp_icmp_ne 215 dX7_readsAct_196 rfl (by first | assumption | (unfold r32; omega)) ⟨by omega, by omega⟩ (fun c196 => ?_) (fun c196 => ?_)
              · exact wp_ret dX7_readsAct_215 rfl (by
                    have ea : acS T ln i = (-1, (kdF (wcd T i (wE T ln i))), (wE T ln i), 0, 0) := by first | (exfalso; omega) | exact acS_1 (by omega) | exact acS_3 (by omega) ok1 ok2 | exact acS_2 (by omega) (by omega) (by omega) (by omega) (by have e1 : loK (kdF (wcd T i (wE T ln i))) = _ := (by unfold loK; (repeat' split) <;> omega : loK (kdF (wcd T i (wE T ln i))) = 0); have e2 : hiK (kdF (wcd T i (wE T ln i))) = _ := (by unfold hiK; (repeat' split) <;> omega : hiK (kdF (wcd T i (wE T ln i))) = 9); rw [e1, e2]; exact ok1) | exact acS_2 (by omega) (by omega) (by omega) (by omega) (by have e1 : loK (kdF (wcd T i (wE T ln i))) = _ := (by unfold loK; (repeat' split) <;> omega : loK (kdF (wcd T i (wE T ln i))) = 0); have e2 : hiK (kdF (wcd T i (wE T ln i))) = _ := (by unfold hiK; (repeat' split) <;> omega : hiK (kdF (wcd T i (wE T ln i))) = 2); rw [e1, e2]; exact ok1) | exact acS_2 (by omega) (by omega) (by omega) (by omega) (by have e1 : loK (kdF (wcd T i (wE T ln i))) = _ := (by unfold loK; (repeat' split) <;> omega : loK (kdF (wcd T i (wE T ln i))) = 1); have e2 : hiK (kdF (wcd T i (wE T ln i))) = _ := (by unfold hiK; (repeat' split) <;> omega : hiK (kdF (wcd T i (wE T ln i))) = 50); rw [e1, e2]; exact ok1) | exact acS_2 (by omega) (by omega) (by omega) (by omega) (by have e1 : loK (kdF (wcd T i (wE T ln i))) = _ := (by unfold loK; (repeat' split) <;> omega : loK (kdF (wcd T i (wE T ln i))) = 0); have e2 : hiK (kdF (wcd T i (wE T ln i))) = _ := (by unfold hiK; (repeat' split) <;> omega : hiK (kdF (wcd T i (wE T ln i))) = 5); rw [e1, e2]; exact ok1)
                    rw [ea] at hQ1
                    dsimp only at hQ1
                    exact hQ1 rfl _ _ ⟨by simp only [List.length_set]; exact t1, fun j q51 q55 => by (repeat rw [List.getElem?_set_ne (by omega)]); exact t2 j q51 q55, (gs_ne (by decide) (gs_eq (gs_lt t51))), (gs_eq (gs_l (gs_lt t55)))⟩ (fun j hj => by (repeat rw [ud_ne (by omega)])) (by rw [ud_eq]) (fun n1 n2 => (by first | (exfalso; omega) | rw [ud_ne (by omega)])) (fun n3 => (by first | (exfalso; omega) | rw [ud_ne (by omega)])))
              · refine wp_aload_n dX7_readsAct_199 rfl ?_
                refine wp_getf dX7_readsAct_200 fX7_19 (gs_ne (by decide) (gs_eq (gs_lt t51))) rfl ?_
                refine wp_iconst dX7_readsAct_203 ?_
                refine wp_iload_n dX7_readsAct_204 rfl ?_
                refine wp_imul dX7_readsAct_205 ?_
                refine wp_iconst dX7_readsAct_206 ?_
                refine wp_iadd dX7_readsAct_207 ?_
                refine wp_aload_n dX7_readsAct_208 rfl ?_
                refine wp_iconst dX7_readsAct_209 ?_
                refine wp_iconst dX7_readsAct_210 ?_
                refine wp_iv2 dX7_readsAct_211 VX7_number lX7_249 (gs_ne (by decide) (gs_eq (gs_lt t51))) (rq0 rfl rfl) (Nat.le_of_ble_eq_true rfl) (sa_of (gs_ne (by decide) (gs_eq (gs_lt t51))) (C_rnumber (gs_ne (by decide) (gs_eq (gs_lt t51))) (gs_ne (by decide) (gs_ne (by decide) t54)) hT hi.2.2 (by omega) (by unfold r32; omega) (by unfold r32; omega) (by unfold r32; omega) (fun z => absurd z (by omega)) (fun _ ok1 => ?_) (fun _ ok1 v1 a1 ha1 => ?_)))
                · dsimp only [pushR]
                  have nb1 := nm_b (T := T) (ln := ln) (i := (wE T ln i)) ok1.1.1
                  refine wp_isv dX7_readsAct_214 (gs_ne (by decide) (gs_eq (gs_l (gs_lt t55)))) (by decide) (by omega) ?_
                  exact wp_ret dX7_readsAct_215 rfl (by
                      have ea : acS T ln i = (-1, (kdF (wcd T i (wE T ln i))), (nmE T ln (wE T ln i)), (nmV T ln (wE T ln i)), 0) := by first | (exfalso; omega) | exact acS_1 (by omega) | exact acS_3 (by omega) ok1 ok2 | exact acS_2 (by omega) (by omega) (by omega) (by omega) (by have e1 : loK (kdF (wcd T i (wE T ln i))) = _ := (by unfold loK; (repeat' split) <;> omega : loK (kdF (wcd T i (wE T ln i))) = 0); have e2 : hiK (kdF (wcd T i (wE T ln i))) = _ := (by unfold hiK; (repeat' split) <;> omega : hiK (kdF (wcd T i (wE T ln i))) = 9); rw [e1, e2]; exact ok1) | exact acS_2 (by omega) (by omega) (by omega) (by omega) (by have e1 : loK (kdF (wcd T i (wE T ln i))) = _ := (by unfold loK; (repeat' split) <;> omega : loK (kdF (wcd T i (wE T ln i))) = 0); have e2 : hiK (kdF (wcd T i (wE T ln i))) = _ := (by unfold hiK; (repeat' split) <;> omega : hiK (kdF (wcd T i (wE T ln i))) = 2); rw [e1, e2]; exact ok1) | exact acS_2 (by omega) (by omega) (by omega) (by omega) (by have e1 : loK (kdF (wcd T i (wE T ln i))) = _ := (by unfold loK; (repeat' split) <;> omega : loK (kdF (wcd T i (wE T ln i))) = 1); have e2 : hiK (kdF (wcd T i (wE T ln i))) = _ := (by unfold hiK; (repeat' split) <;> omega : hiK (kdF (wcd T i (wE T ln i))) = 50); rw [e1, e2]; exact ok1) | exact acS_2 (by omega) (by omega) (by omega) (by omega) (by have e1 : loK (kdF (wcd T i (wE T ln i))) = _ := (by unfold loK; (repeat' split) <;> omega : loK (kdF (wcd T i (wE T ln i))) = 0); have e2 : hiK (kdF (wcd T i (wE T ln i))) = _ := (by unfold hiK; (repeat' split) <;> omega : hiK (kdF (wcd T i (wE T ln i))) = 5); rw [e1, e2]; exact ok1)
                      rw [ea] at hQ1
                      dsimp only at hQ1
                      exact hQ1 rfl _ _ ⟨by simp only [List.length_set]; exact t1, fun j q51 q55 => by (repeat rw [List.getElem?_set_ne (by omega)]); exact t2 j q51 q55, (gs_ne (by decide) (gs_eq (gs_l (gs_l (gs_lt t51))))), (gs_eq (gs_l (gs_l (gs_l (gs_lt t55)))))⟩ (fun j hj => by (repeat rw [ud_ne (by omega)])) (by rw [ud_ne (by omega), ud_eq]) (fun n1 n2 => (by first | (exfalso; omega) | rw [ud_eq])) (fun n3 => (by first | (exfalso; omega) | rw [ud_ne (by omega), ud_ne (by omega)])))
                · dsimp only [pushR]
                  have nx1 := nmX_b (T := T) (ln := ln) (i := (wE T ln i)) (by omega)
                  refine wp_isv dX7_readsAct_214 (gs_ne (by decide) (gs_eq (gs_l (gs_lt t55)))) (by decide) (by omega) ?_
                  exact wp_ret dX7_readsAct_215 rfl (by
                      have ea : acS T ln i = ((nmX T ln (wE T ln i)), -1, i, 0, 0) := by first | (exfalso; omega) | exact acS_3b (by omega) ok1 ok2 | exact acS_b (by omega) (by omega) (by omega) (by have e1 : loK (kdF (wcd T i (wE T ln i))) = _ := (by unfold loK; (repeat' split) <;> omega : loK (kdF (wcd T i (wE T ln i))) = 0); have e2 : hiK (kdF (wcd T i (wE T ln i))) = _ := (by unfold hiK; (repeat' split) <;> omega : hiK (kdF (wcd T i (wE T ln i))) = 9); rw [e1, e2]; exact ok1) | exact acS_b (by omega) (by omega) (by omega) (by have e1 : loK (kdF (wcd T i (wE T ln i))) = _ := (by unfold loK; (repeat' split) <;> omega : loK (kdF (wcd T i (wE T ln i))) = 0); have e2 : hiK (kdF (wcd T i (wE T ln i))) = _ := (by unfold hiK; (repeat' split) <;> omega : hiK (kdF (wcd T i (wE T ln i))) = 2); rw [e1, e2]; exact ok1) | exact acS_b (by omega) (by omega) (by omega) (by have e1 : loK (kdF (wcd T i (wE T ln i))) = _ := (by unfold loK; (repeat' split) <;> omega : loK (kdF (wcd T i (wE T ln i))) = 1); have e2 : hiK (kdF (wcd T i (wE T ln i))) = _ := (by unfold hiK; (repeat' split) <;> omega : hiK (kdF (wcd T i (wE T ln i))) = 50); rw [e1, e2]; exact ok1) | exact acS_b (by omega) (by omega) (by omega) (by have e1 : loK (kdF (wcd T i (wE T ln i))) = _ := (by unfold loK; (repeat' split) <;> omega : loK (kdF (wcd T i (wE T ln i))) = 0); have e2 : hiK (kdF (wcd T i (wE T ln i))) = _ := (by unfold hiK; (repeat' split) <;> omega : hiK (kdF (wcd T i (wE T ln i))) = 5); rw [e1, e2]; exact ok1)
                      rw [ea] at hQ0
                      dsimp only at hQ0
                      exact hQ0 (by omega) _ _ a1 (by omega) ⟨by simp only [List.length_set]; exact t1, fun j q51 q55 => by (repeat rw [List.getElem?_set_ne (by omega)]); exact t2 j q51 q55, (gs_ne (by decide) (gs_eq (gs_l (gs_l (gs_lt t51))))), (gs_eq (gs_l (gs_l (gs_l (gs_lt t55)))))⟩)
          · refine wp_aload_n dX7_readsAct_165 rfl ?_
            refine wp_getf dX7_readsAct_166 fX7_19 (gs_ne (by decide) (gs_eq (gs_lt t51))) rfl ?_
            refine wp_iconst dX7_readsAct_169 ?_
            refine wp_iload_n dX7_readsAct_170 rfl ?_
            refine wp_imul dX7_readsAct_171 ?_
            refine wp_iconst dX7_readsAct_172 ?_
            refine wp_iadd dX7_readsAct_173 ?_
            refine wp_aload_n dX7_readsAct_174 rfl ?_
            refine wp_iconst dX7_readsAct_175 ?_
            refine wp_bipush dX7_readsAct_176 rfl ?_
            refine wp_iv2 dX7_readsAct_178 VX7_number lX7_249 (gs_ne (by decide) (gs_eq (gs_lt t51))) (rq0 rfl rfl) (Nat.le_of_ble_eq_true rfl) (sa_of (gs_ne (by decide) (gs_eq (gs_lt t51))) (C_rnumber (gs_ne (by decide) (gs_eq (gs_lt t51))) (gs_ne (by decide) (gs_ne (by decide) t54)) hT hi.2.2 (by omega) (by unfold r32; omega) (by unfold r32; omega) (by unfold r32; omega) (fun z => absurd z (by omega)) (fun _ ok1 => ?_) (fun _ ok1 v1 a1 ha1 => ?_)))
            · dsimp only [pushR]
              have nb1 := nm_b (T := T) (ln := ln) (i := (wE T ln i)) ok1.1.1
              refine wp_isv dX7_readsAct_181 (gs_ne (by decide) (gs_eq (gs_l (gs_lt t55)))) (by decide) (by omega) ?_
              refine wp_goto 215 dX7_readsAct_182 rfl ?_
              exact wp_ret dX7_readsAct_215 rfl (by
                  have ea : acS T ln i = (-1, (kdF (wcd T i (wE T ln i))), (nmE T ln (wE T ln i)), (nmV T ln (wE T ln i)), 0) := by first | (exfalso; omega) | exact acS_1 (by omega) | exact acS_3 (by omega) ok1 ok2 | exact acS_2 (by omega) (by omega) (by omega) (by omega) (by have e1 : loK (kdF (wcd T i (wE T ln i))) = _ := (by unfold loK; (repeat' split) <;> omega : loK (kdF (wcd T i (wE T ln i))) = 0); have e2 : hiK (kdF (wcd T i (wE T ln i))) = _ := (by unfold hiK; (repeat' split) <;> omega : hiK (kdF (wcd T i (wE T ln i))) = 9); rw [e1, e2]; exact ok1) | exact acS_2 (by omega) (by omega) (by omega) (by omega) (by have e1 : loK (kdF (wcd T i (wE T ln i))) = _ := (by unfold loK; (repeat' split) <;> omega : loK (kdF (wcd T i (wE T ln i))) = 0); have e2 : hiK (kdF (wcd T i (wE T ln i))) = _ := (by unfold hiK; (repeat' split) <;> omega : hiK (kdF (wcd T i (wE T ln i))) = 2); rw [e1, e2]; exact ok1) | exact acS_2 (by omega) (by omega) (by omega) (by omega) (by have e1 : loK (kdF (wcd T i (wE T ln i))) = _ := (by unfold loK; (repeat' split) <;> omega : loK (kdF (wcd T i (wE T ln i))) = 1); have e2 : hiK (kdF (wcd T i (wE T ln i))) = _ := (by unfold hiK; (repeat' split) <;> omega : hiK (kdF (wcd T i (wE T ln i))) = 50); rw [e1, e2]; exact ok1) | exact acS_2 (by omega) (by omega) (by omega) (by omega) (by have e1 : loK (kdF (wcd T i (wE T ln i))) = _ := (by unfold loK; (repeat' split) <;> omega : loK (kdF (wcd T i (wE T ln i))) = 0); have e2 : hiK (kdF (wcd T i (wE T ln i))) = _ := (by unfold hiK; (repeat' split) <;> omega : hiK (kdF (wcd T i (wE T ln i))) = 5); rw [e1, e2]; exact ok1)
                  rw [ea] at hQ1
                  dsimp only at hQ1
                  exact hQ1 rfl _ _ ⟨by simp only [List.length_set]; exact t1, fun j q51 q55 => by (repeat rw [List.getElem?_set_ne (by omega)]); exact t2 j q51 q55, (gs_ne (by decide) (gs_eq (gs_l (gs_l (gs_lt t51))))), (gs_eq (gs_l (gs_l (gs_l (gs_lt t55)))))⟩ (fun j hj => by (repeat rw [ud_ne (by omega)])) (by rw [ud_ne (by omega), ud_eq]) (fun n1 n2 => (by first | (exfalso; omega) | rw [ud_eq])) (fun n3 => (by first | (exfalso; omega) | rw [ud_ne (by omega), ud_ne (by omega)])))
            · dsimp only [pushR]
              have nx1 := nmX_b (T := T) (ln := ln) (i := (wE T ln i)) (by omega)
              refine wp_isv dX7_readsAct_181 (gs_ne (by decide) (gs_eq (gs_l (gs_lt t55)))) (by decide) (by omega) ?_
              refine wp_goto 215 dX7_readsAct_182 rfl ?_
              exact wp_ret dX7_readsAct_215 rfl (by
                  have ea : acS T ln i = ((nmX T ln (wE T ln i)), -1, i, 0, 0) := by first | (exfalso; omega) | exact acS_3b (by omega) ok1 ok2 | exact acS_b (by omega) (by omega) (by omega) (by have e1 : loK (kdF (wcd T i (wE T ln i))) = _ := (by unfold loK; (repeat' split) <;> omega : loK (kdF (wcd T i (wE T ln i))) = 0); have e2 : hiK (kdF (wcd T i (wE T ln i))) = _ := (by unfold hiK; (repeat' split) <;> omega : hiK (kdF (wcd T i (wE T ln i))) = 9); rw [e1, e2]; exact ok1) | exact acS_b (by omega) (by omega) (by omega) (by have e1 : loK (kdF (wcd T i (wE T ln i))) = _ := (by unfold loK; (repeat' split) <;> omega : loK (kdF (wcd T i (wE T ln i))) = 0); have e2 : hiK (kdF (wcd T i (wE T ln i))) = _ := (by unfold hiK; (repeat' split) <;> omega : hiK (kdF (wcd T i (wE T ln i))) = 2); rw [e1, e2]; exact ok1) | exact acS_b (by omega) (by omega) (by omega) (by have e1 : loK (kdF (wcd T i (wE T ln i))) = _ := (by unfold loK; (repeat' split) <;> omega : loK (kdF (wcd T i (wE T ln i))) = 1); have e2 : hiK (kdF (wcd T i (wE T ln i))) = _ := (by unfold hiK; (repeat' split) <;> omega : hiK (kdF (wcd T i (wE T ln i))) = 50); rw [e1, e2]; exact ok1) | exact acS_b (by omega) (by omega) (by omega) (by have e1 : loK (kdF (wcd T i (wE T ln i))) = _ := (by unfold loK; (repeat' split) <;> omega : loK (kdF (wcd T i (wE T ln i))) = 0); have e2 : hiK (kdF (wcd T i (wE T ln i))) = _ := (by unfold hiK; (repeat' split) <;> omega : hiK (kdF (wcd T i (wE T ln i))) = 5); rw [e1, e2]; exact ok1)
                  rw [ea] at hQ0
                  dsimp only at hQ0
                  exact hQ0 (by omega) _ _ a1 (by omega) ⟨by simp only [List.length_set]; exact t1, fun j q51 q55 => by (repeat rw [List.getElem?_set_ne (by omega)]); exact t2 j q51 q55, (gs_ne (by decide) (gs_eq (gs_l (gs_l (gs_lt t51))))), (gs_eq (gs_l (gs_l (gs_l (gs_lt t55)))))⟩)
        · refine wp_aload_n dX7_readsAct_140 rfl ?_
          refine wp_getf dX7_readsAct_141 fX7_19 (gs_ne (by decide) (gs_eq (gs_lt t51))) rfl ?_
          refine wp_iconst dX7_readsAct_144 ?_
          refine wp_iload_n dX7_readsAct_145 rfl ?_
          refine wp_imul dX7_readsAct_146 ?_
          refine wp_iconst dX7_readsAct_147 ?_
          refine wp_iadd dX7_readsAct_148 ?_
          refine wp_aload_n dX7_readsAct_149 rfl ?_
          refine wp_iconst dX7_readsAct_150 ?_
          refine wp_iconst dX7_readsAct_151 ?_
          refine wp_iv2 dX7_readsAct_152 VX7_number lX7_249 (gs_ne (by decide) (gs_eq (gs_lt t51))) (rq0 rfl rfl) (Nat.le_of_ble_eq_true rfl) (sa_of (gs_ne (by decide) (gs_eq (gs_lt t51))) (C_rnumber (gs_ne (by decide) (gs_eq (gs_lt t51))) (gs_ne (by decide) (gs_ne (by decide) t54)) hT hi.2.2 (by omega) (by unfold r32; omega) (by unfold r32; omega) (by unfold r32; omega) (fun z => absurd z (by omega)) (fun _ ok1 => ?_) (fun _ ok1 v1 a1 ha1 => ?_)))
          · dsimp only [pushR]
            have nb1 := nm_b (T := T) (ln := ln) (i := (wE T ln i)) ok1.1.1
            refine wp_isv dX7_readsAct_155 (gs_ne (by decide) (gs_eq (gs_l (gs_lt t55)))) (by decide) (by omega) ?_
            refine wp_goto 215 dX7_readsAct_156 rfl ?_
            exact wp_ret dX7_readsAct_215 rfl (by
                have ea : acS T ln i = (-1, (kdF (wcd T i (wE T ln i))), (nmE T ln (wE T ln i)), (nmV T ln (wE T ln i)), 0) := by first | (exfalso; omega) | exact acS_1 (by omega) | exact acS_3 (by omega) ok1 ok2 | exact acS_2 (by omega) (by omega) (by omega) (by omega) (by have e1 : loK (kdF (wcd T i (wE T ln i))) = _ := (by unfold loK; (repeat' split) <;> omega : loK (kdF (wcd T i (wE T ln i))) = 0); have e2 : hiK (kdF (wcd T i (wE T ln i))) = _ := (by unfold hiK; (repeat' split) <;> omega : hiK (kdF (wcd T i (wE T ln i))) = 9); rw [e1, e2]; exact ok1) | exact acS_2 (by omega) (by omega) (by omega) (by omega) (by have e1 : loK (kdF (wcd T i (wE T ln i))) = _ := (by unfold loK; (repeat' split) <;> omega : loK (kdF (wcd T i (wE T ln i))) = 0); have e2 : hiK (kdF (wcd T i (wE T ln i))) = _ := (by unfold hiK; (repeat' split) <;> omega : hiK (kdF (wcd T i (wE T ln i))) = 2); rw [e1, e2]; exact ok1) | exact acS_2 (by omega) (by omega) (by omega) (by omega) (by have e1 : loK (kdF (wcd T i (wE T ln i))) = _ := (by unfold loK; (repeat' split) <;> omega : loK (kdF (wcd T i (wE T ln i))) = 1); have e2 : hiK (kdF (wcd T i (wE T ln i))) = _ := (by unfold hiK; (repeat' split) <;> omega : hiK (kdF (wcd T i (wE T ln i))) = 50); rw [e1, e2]; exact ok1) | exact acS_2 (by omega) (by omega) (by omega) (by omega) (by have e1 : loK (kdF (wcd T i (wE T ln i))) = _ := (by unfold loK; (repeat' split) <;> omega : loK (kdF (wcd T i (wE T ln i))) = 0); have e2 : hiK (kdF (wcd T i (wE T ln i))) = _ := (by unfold hiK; (repeat' split) <;> omega : hiK (kdF (wcd T i (wE T ln i))) = 5); rw [e1, e2]; exact ok1)
                rw [ea] at hQ1
                dsimp only at hQ1
                exact hQ1 rfl _ _ ⟨by simp only [List.length_set]; exact t1, fun j q51 q55 => by (repeat rw [List.getElem?_set_ne (by omega)]); exact t2 j q51 q55, (gs_ne (by decide) (gs_eq (gs_l (gs_l (gs_lt t51))))), (gs_eq (gs_l (gs_l (gs_l (gs_lt t55)))))⟩ (fun j hj => by (repeat rw [ud_ne (by omega)])) (by rw [ud_ne (by omega), ud_eq]) (fun n1 n2 => (by first | (exfalso; omega) | rw [ud_eq])) (fun n3 => (by first | (exfalso; omega) | rw [ud_ne (by omega), ud_ne (by omega)])))
          · dsimp only [pushR]
            have nx1 := nmX_b (T := T) (ln := ln) (i := (wE T ln i)) (by omega)
            refine wp_isv dX7_readsAct_155 (gs_ne (by decide) (gs_eq (gs_l (gs_lt t55)))) (by decide) (by omega) ?_
            refine wp_goto 215 dX7_readsAct_156 rfl ?_
            exact wp_ret dX7_readsAct_215 rfl (by
                have ea : acS T ln i = ((nmX T ln (wE T ln i)), -1, i, 0, 0) := by first | (exfalso; omega) | exact acS_3b (by omega) ok1 ok2 | exact acS_b (by omega) (by omega) (by omega) (by have e1 : loK (kdF (wcd T i (wE T ln i))) = _ := (by unfold loK; (repeat' split) <;> omega : loK (kdF (wcd T i (wE T ln i))) = 0); have e2 : hiK (kdF (wcd T i (wE T ln i))) = _ := (by unfold hiK; (repeat' split) <;> omega : hiK (kdF (wcd T i (wE T ln i))) = 9); rw [e1, e2]; exact ok1) | exact acS_b (by omega) (by omega) (by omega) (by have e1 : loK (kdF (wcd T i (wE T ln i))) = _ := (by unfold loK; (repeat' split) <;> omega : loK (kdF (wcd T i (wE T ln i))) = 0); have e2 : hiK (kdF (wcd T i (wE T ln i))) = _ := (by unfold hiK; (repeat' split) <;> omega : hiK (kdF (wcd T i (wE T ln i))) = 2); rw [e1, e2]; exact ok1) | exact acS_b (by omega) (by omega) (by omega) (by have e1 : loK (kdF (wcd T i (wE T ln i))) = _ := (by unfold loK; (repeat' split) <;> omega : loK (kdF (wcd T i (wE T ln i))) = 1); have e2 : hiK (kdF (wcd T i (wE T ln i))) = _ := (by unfold hiK; (repeat' split) <;> omega : hiK (kdF (wcd T i (wE T ln i))) = 50); rw [e1, e2]; exact ok1) | exact acS_b (by omega) (by omega) (by omega) (by have e1 : loK (kdF (wcd T i (wE T ln i))) = _ := (by unfold loK; (repeat' split) <;> omega : loK (kdF (wcd T i (wE T ln i))) = 0); have e2 : hiK (kdF (wcd T i (wE T ln i))) = _ := (by unfold hiK; (repeat' split) <;> omega : hiK (kdF (wcd T i (wE T ln i))) = 5); rw [e1, e2]; exact ok1)
                rw [ea] at hQ0
                dsimp only at hQ0
                exact hQ0 (by omega) _ _ a1 (by omega) ⟨by simp only [List.length_set]; exact t1, fun j q51 q55 => by (repeat rw [List.getElem?_set_ne (by omega)]); exact t2 j q51 q55, (gs_ne (by decide) (gs_eq (gs_l (gs_l (gs_lt t51))))), (gs_eq (gs_l (gs_l (gs_l (gs_lt t55)))))⟩)
      · refine wp_aload_n dX7_readsAct_86 rfl ?_
        refine wp_getf dX7_readsAct_87 fX7_19 (gs_ne (by decide) (gs_eq (gs_lt t51))) rfl ?_
        refine wp_iconst dX7_readsAct_90 ?_
        refine wp_iload_n dX7_readsAct_91 rfl ?_
        refine wp_imul dX7_readsAct_92 ?_
        refine wp_iconst dX7_readsAct_93 ?_
        refine wp_iadd dX7_readsAct_94 ?_
        refine wp_aload_n dX7_readsAct_95 rfl ?_
        refine wp_iconst dX7_readsAct_96 ?_
        refine wp_bipush dX7_readsAct_97 rfl ?_
        refine wp_iv2 dX7_readsAct_99 VX7_number lX7_249 (gs_ne (by decide) (gs_eq (gs_lt t51))) (rq0 rfl rfl) (Nat.le_of_ble_eq_true rfl) (sa_of (gs_ne (by decide) (gs_eq (gs_lt t51))) (C_rnumber (gs_ne (by decide) (gs_eq (gs_lt t51))) (gs_ne (by decide) (gs_ne (by decide) t54)) hT hi.2.2 (by omega) (by unfold r32; omega) (by unfold r32; omega) (by unfold r32; omega) (fun z => absurd z (by omega)) (fun _ ok1 => ?_) (fun _ ok1 v1 a1 ha1 => ?_)))
        · dsimp only [pushR]
          have nb1 := nm_b (T := T) (ln := ln) (i := (wE T ln i)) ok1.1.1
          refine wp_isv dX7_readsAct_102 (gs_ne (by decide) (gs_eq (gs_l (gs_lt t55)))) (by decide) (by omega) ?_
          refine wp_aload_n dX7_readsAct_103 rfl ?_
          refine wp_getf dX7_readsAct_104 fX7_19 (gs_ne (by decide) (gs_eq (gs_l (gs_l (gs_lt t51))))) rfl ?_
          refine wp_iconst dX7_readsAct_107 ?_
          refine wp_iload_n dX7_readsAct_108 rfl ?_
          refine wp_imul dX7_readsAct_109 ?_
          refine wp_iconst dX7_readsAct_110 ?_
          refine wp_iadd dX7_readsAct_111 ?_
          refine wp_iload dX7_readsAct_112 rfl ?_
          refine wp_iconst dX7_readsAct_114 ?_
          refine wp_icmp_ne 129 dX7_readsAct_115 rfl (by first | assumption | (unfold r32; omega)) ⟨by omega, by omega⟩ (fun c115 => ?_) (fun c115 => ?_)
          · refine wp_iconst dX7_readsAct_129 ?_
            refine wp_isv dX7_readsAct_130 (gs_eq (gs_l (gs_l (gs_l (gs_lt t55))))) (by decide) (by omega) ?_
            refine wp_goto 215 dX7_readsAct_131 rfl ?_
            exact wp_ret dX7_readsAct_215 rfl (by
                have ea : acS T ln i = (-1, (kdF (wcd T i (wE T ln i))), (nmE T ln (wE T ln i)), (nmV T ln (wE T ln i)), 0) := by first | (exfalso; omega) | exact acS_1 (by omega) | exact acS_3 (by omega) ok1 ok2 | exact acS_2 (by omega) (by omega) (by omega) (by omega) (by have e1 : loK (kdF (wcd T i (wE T ln i))) = _ := (by unfold loK; (repeat' split) <;> omega : loK (kdF (wcd T i (wE T ln i))) = 0); have e2 : hiK (kdF (wcd T i (wE T ln i))) = _ := (by unfold hiK; (repeat' split) <;> omega : hiK (kdF (wcd T i (wE T ln i))) = 9); rw [e1, e2]; exact ok1) | exact acS_2 (by omega) (by omega) (by omega) (by omega) (by have e1 : loK (kdF (wcd T i (wE T ln i))) = _ := (by unfold loK; (repeat' split) <;> omega : loK (kdF (wcd T i (wE T ln i))) = 0); have e2 : hiK (kdF (wcd T i (wE T ln i))) = _ := (by unfold hiK; (repeat' split) <;> omega : hiK (kdF (wcd T i (wE T ln i))) = 2); rw [e1, e2]; exact ok1) | exact acS_2 (by omega) (by omega) (by omega) (by omega) (by have e1 : loK (kdF (wcd T i (wE T ln i))) = _ := (by unfold loK; (repeat' split) <;> omega : loK (kdF (wcd T i (wE T ln i))) = 1); have e2 : hiK (kdF (wcd T i (wE T ln i))) = _ := (by unfold hiK; (repeat' split) <;> omega : hiK (kdF (wcd T i (wE T ln i))) = 50); rw [e1, e2]; exact ok1) | exact acS_2 (by omega) (by omega) (by omega) (by omega) (by have e1 : loK (kdF (wcd T i (wE T ln i))) = _ := (by unfold loK; (repeat' split) <;> omega : loK (kdF (wcd T i (wE T ln i))) = 0); have e2 : hiK (kdF (wcd T i (wE T ln i))) = _ := (by unfold hiK; (repeat' split) <;> omega : hiK (kdF (wcd T i (wE T ln i))) = 5); rw [e1, e2]; exact ok1)
                rw [ea] at hQ1
                dsimp only at hQ1
                exact hQ1 rfl _ _ ⟨by simp only [List.length_set]; exact t1, fun j q51 q55 => by (repeat rw [List.getElem?_set_ne (by omega)]); exact t2 j q51 q55, (gs_ne (by decide) (gs_ne (by decide) (gs_eq (gs_l (gs_l (gs_lt t51)))))), (gs_eq (gs_l (gs_l (gs_l (gs_l (gs_lt t55))))))⟩ (fun j hj => by (repeat rw [ud_ne (by omega)])) (by rw [ud_ne (by omega), ud_ne (by omega), ud_eq]) (fun n1 n2 => (by first | (exfalso; omega) | rw [ud_ne (by omega), ud_eq])) (fun n3 => (by first | (exfalso; omega) | rw [ud_eq])))
          · refine wp_aload_n dX7_readsAct_118 rfl ?_
            refine wp_iconst dX7_readsAct_119 ?_
            refine wp_sipush dX7_readsAct_120 rfl ?_
            refine wp_iv2 dX7_readsAct_123 VX7_number lX7_249 (gs_ne (by decide) (gs_eq (gs_l (gs_l (gs_lt t51))))) (rq0 rfl rfl) (Nat.le_of_ble_eq_true rfl) (sa_of (gs_ne (by decide) (gs_eq (gs_l (gs_l (gs_lt t51))))) (C_rnumber (gs_ne (by decide) (gs_eq (gs_l (gs_l (gs_lt t51))))) (gs_ne (by decide) (gs_ne (by decide) (gs_ne (by decide) (gs_ne (by decide) t54)))) hT hi.2.2 (by omega) (by unfold r32; omega) (by unfold r32; omega) (by unfold r32; omega) (fun z => absurd z (by omega)) (fun _ ok2 => ?_) (fun _ ok2 v2 a2 ha2 => ?_)))
            · dsimp only [pushR]
              have nb2 := nm_b (T := T) (ln := ln) (i := (nmE T ln (wE T ln i))) ok2.1.1
              refine wp_goto 130 dX7_readsAct_126 rfl ?_
              refine wp_isv dX7_readsAct_130 (gs_ne (by decide) (gs_eq (gs_l (gs_l (gs_l (gs_lt t55)))))) (by decide) (by omega) ?_
              refine wp_goto 215 dX7_readsAct_131 rfl ?_
              exact wp_ret dX7_readsAct_215 rfl (by
                  have ea : acS T ln i = (-1, (kdF (wcd T i (wE T ln i))), (nmE T ln (nmE T ln (wE T ln i))), (nmV T ln (wE T ln i)), (nmV T ln (nmE T ln (wE T ln i)))) := by first | (exfalso; omega) | exact acS_1 (by omega) | exact acS_3 (by omega) ok1 ok2 | exact acS_2 (by omega) (by omega) (by omega) (by omega) (by have e1 : loK (kdF (wcd T i (wE T ln i))) = _ := (by unfold loK; (repeat' split) <;> omega : loK (kdF (wcd T i (wE T ln i))) = 0); have e2 : hiK (kdF (wcd T i (wE T ln i))) = _ := (by unfold hiK; (repeat' split) <;> omega : hiK (kdF (wcd T i (wE T ln i))) = 9); rw [e1, e2]; exact ok1) | exact acS_2 (by omega) (by omega) (by omega) (by omega) (by have e1 : loK (kdF (wcd T i (wE T ln i))) = _ := (by unfold loK; (repeat' split) <;> omega : loK (kdF (wcd T i (wE T ln i))) = 0); have e2 : hiK (kdF (wcd T i (wE T ln i))) = _ := (by unfold hiK; (repeat' split) <;> omega : hiK (kdF (wcd T i (wE T ln i))) = 2); rw [e1, e2]; exact ok1) | exact acS_2 (by omega) (by omega) (by omega) (by omega) (by have e1 : loK (kdF (wcd T i (wE T ln i))) = _ := (by unfold loK; (repeat' split) <;> omega : loK (kdF (wcd T i (wE T ln i))) = 1); have e2 : hiK (kdF (wcd T i (wE T ln i))) = _ := (by unfold hiK; (repeat' split) <;> omega : hiK (kdF (wcd T i (wE T ln i))) = 50); rw [e1, e2]; exact ok1) | exact acS_2 (by omega) (by omega) (by omega) (by omega) (by have e1 : loK (kdF (wcd T i (wE T ln i))) = _ := (by unfold loK; (repeat' split) <;> omega : loK (kdF (wcd T i (wE T ln i))) = 0); have e2 : hiK (kdF (wcd T i (wE T ln i))) = _ := (by unfold hiK; (repeat' split) <;> omega : hiK (kdF (wcd T i (wE T ln i))) = 5); rw [e1, e2]; exact ok1)
                  rw [ea] at hQ1
                  dsimp only at hQ1
                  exact hQ1 rfl _ _ ⟨by simp only [List.length_set]; exact t1, fun j q51 q55 => by (repeat rw [List.getElem?_set_ne (by omega)]); exact t2 j q51 q55, (gs_ne (by decide) (gs_eq (gs_l (gs_l (gs_l (gs_l (gs_lt t51))))))), (gs_eq (gs_l (gs_l (gs_l (gs_l (gs_l (gs_lt t55)))))))⟩ (fun j hj => by (repeat rw [ud_ne (by omega)])) (by rw [ud_ne (by omega), ud_ne (by omega), ud_eq]) (fun n1 n2 => (by first | (exfalso; omega) | rw [ud_ne (by omega), ud_eq])) (fun n3 => (by first | (exfalso; omega) | rw [ud_eq])))
            · dsimp only [pushR]
              have nx2 := nmX_b (T := T) (ln := ln) (i := (nmE T ln (wE T ln i))) (by omega)
              refine wp_goto 130 dX7_readsAct_126 rfl ?_
              refine wp_isv dX7_readsAct_130 (gs_ne (by decide) (gs_eq (gs_l (gs_l (gs_l (gs_lt t55)))))) (by decide) (by omega) ?_
              refine wp_goto 215 dX7_readsAct_131 rfl ?_
              exact wp_ret dX7_readsAct_215 rfl (by
                  have ea : acS T ln i = ((nmX T ln (nmE T ln (wE T ln i))), -1, i, 0, 0) := by first | (exfalso; omega) | exact acS_3b (by omega) ok1 ok2 | exact acS_b (by omega) (by omega) (by omega) (by have e1 : loK (kdF (wcd T i (wE T ln i))) = _ := (by unfold loK; (repeat' split) <;> omega : loK (kdF (wcd T i (wE T ln i))) = 0); have e2 : hiK (kdF (wcd T i (wE T ln i))) = _ := (by unfold hiK; (repeat' split) <;> omega : hiK (kdF (wcd T i (wE T ln i))) = 9); rw [e1, e2]; exact ok1) | exact acS_b (by omega) (by omega) (by omega) (by have e1 : loK (kdF (wcd T i (wE T ln i))) = _ := (by unfold loK; (repeat' split) <;> omega : loK (kdF (wcd T i (wE T ln i))) = 0); have e2 : hiK (kdF (wcd T i (wE T ln i))) = _ := (by unfold hiK; (repeat' split) <;> omega : hiK (kdF (wcd T i (wE T ln i))) = 2); rw [e1, e2]; exact ok1) | exact acS_b (by omega) (by omega) (by omega) (by have e1 : loK (kdF (wcd T i (wE T ln i))) = _ := (by unfold loK; (repeat' split) <;> omega : loK (kdF (wcd T i (wE T ln i))) = 1); have e2 : hiK (kdF (wcd T i (wE T ln i))) = _ := (by unfold hiK; (repeat' split) <;> omega : hiK (kdF (wcd T i (wE T ln i))) = 50); rw [e1, e2]; exact ok1) | exact acS_b (by omega) (by omega) (by omega) (by have e1 : loK (kdF (wcd T i (wE T ln i))) = _ := (by unfold loK; (repeat' split) <;> omega : loK (kdF (wcd T i (wE T ln i))) = 0); have e2 : hiK (kdF (wcd T i (wE T ln i))) = _ := (by unfold hiK; (repeat' split) <;> omega : hiK (kdF (wcd T i (wE T ln i))) = 5); rw [e1, e2]; exact ok1)
                  rw [ea] at hQ0
                  dsimp only at hQ0
                  exact hQ0 (by omega) _ _ a2 (by omega) ⟨by simp only [List.length_set]; exact t1, fun j q51 q55 => by (repeat rw [List.getElem?_set_ne (by omega)]); exact t2 j q51 q55, (gs_ne (by decide) (gs_eq (gs_l (gs_l (gs_l (gs_l (gs_lt t51))))))), (gs_eq (gs_l (gs_l (gs_l (gs_l (gs_l (gs_lt t55)))))))⟩)
        · dsimp only [pushR]
          have nx1 := nmX_b (T := T) (ln := ln) (i := (wE T ln i)) (by omega)
          refine wp_isv dX7_readsAct_102 (gs_ne (by decide) (gs_eq (gs_l (gs_lt t55)))) (by decide) (by omega) ?_
          refine wp_aload_n dX7_readsAct_103 rfl ?_
          refine wp_getf dX7_readsAct_104 fX7_19 (gs_ne (by decide) (gs_eq (gs_l (gs_l (gs_lt t51))))) rfl ?_
          refine wp_iconst dX7_readsAct_107 ?_
          refine wp_iload_n dX7_readsAct_108 rfl ?_
          refine wp_imul dX7_readsAct_109 ?_
          refine wp_iconst dX7_readsAct_110 ?_
          refine wp_iadd dX7_readsAct_111 ?_
          refine wp_iload dX7_readsAct_112 rfl ?_
          refine wp_iconst dX7_readsAct_114 ?_
          refine wp_icmp_ne 129 dX7_readsAct_115 rfl (by first | assumption | (unfold r32; omega)) ⟨by omega, by omega⟩ (fun c115 => ?_) (fun c115 => ?_)
          · refine wp_iconst dX7_readsAct_129 ?_
            refine wp_isv dX7_readsAct_130 (gs_eq (gs_l (gs_l (gs_l (gs_lt t55))))) (by decide) (by omega) ?_
            refine wp_goto 215 dX7_readsAct_131 rfl ?_
            exact wp_ret dX7_readsAct_215 rfl (by
                have ea : acS T ln i = ((nmX T ln (wE T ln i)), -1, i, 0, 0) := by first | (exfalso; omega) | exact acS_3b (by omega) ok1 ok2 | exact acS_b (by omega) (by omega) (by omega) (by have e1 : loK (kdF (wcd T i (wE T ln i))) = _ := (by unfold loK; (repeat' split) <;> omega : loK (kdF (wcd T i (wE T ln i))) = 0); have e2 : hiK (kdF (wcd T i (wE T ln i))) = _ := (by unfold hiK; (repeat' split) <;> omega : hiK (kdF (wcd T i (wE T ln i))) = 9); rw [e1, e2]; exact ok1) | exact acS_b (by omega) (by omega) (by omega) (by have e1 : loK (kdF (wcd T i (wE T ln i))) = _ := (by unfold loK; (repeat' split) <;> omega : loK (kdF (wcd T i (wE T ln i))) = 0); have e2 : hiK (kdF (wcd T i (wE T ln i))) = _ := (by unfold hiK; (repeat' split) <;> omega : hiK (kdF (wcd T i (wE T ln i))) = 2); rw [e1, e2]; exact ok1) | exact acS_b (by omega) (by omega) (by omega) (by have e1 : loK (kdF (wcd T i (wE T ln i))) = _ := (by unfold loK; (repeat' split) <;> omega : loK (kdF (wcd T i (wE T ln i))) = 1); have e2 : hiK (kdF (wcd T i (wE T ln i))) = _ := (by unfold hiK; (repeat' split) <;> omega : hiK (kdF (wcd T i (wE T ln i))) = 50); rw [e1, e2]; exact ok1) | exact acS_b (by omega) (by omega) (by omega) (by have e1 : loK (kdF (wcd T i (wE T ln i))) = _ := (by unfold loK; (repeat' split) <;> omega : loK (kdF (wcd T i (wE T ln i))) = 0); have e2 : hiK (kdF (wcd T i (wE T ln i))) = _ := (by unfold hiK; (repeat' split) <;> omega : hiK (kdF (wcd T i (wE T ln i))) = 5); rw [e1, e2]; exact ok1)
                rw [ea] at hQ0
                dsimp only at hQ0
                exact hQ0 (by omega) _ _ a1 (by omega) ⟨by simp only [List.length_set]; exact t1, fun j q51 q55 => by (repeat rw [List.getElem?_set_ne (by omega)]); exact t2 j q51 q55, (gs_ne (by decide) (gs_ne (by decide) (gs_eq (gs_l (gs_l (gs_lt t51)))))), (gs_eq (gs_l (gs_l (gs_l (gs_l (gs_lt t55))))))⟩)
          · refine wp_aload_n dX7_readsAct_118 rfl ?_
            refine wp_iconst dX7_readsAct_119 ?_
            refine wp_sipush dX7_readsAct_120 rfl ?_
            refine wp_iv2 dX7_readsAct_123 VX7_number lX7_249 (gs_ne (by decide) (gs_eq (gs_l (gs_l (gs_lt t51))))) (rq0 rfl rfl) (Nat.le_of_ble_eq_true rfl) (sa_of (gs_ne (by decide) (gs_eq (gs_l (gs_l (gs_lt t51))))) (C_rnumber (gs_ne (by decide) (gs_eq (gs_l (gs_l (gs_lt t51))))) (gs_ne (by decide) (gs_ne (by decide) (gs_ne (by decide) (gs_ne (by decide) t54)))) hT hi.2.2 (by omega) (by unfold r32; omega) (by unfold r32; omega) (by unfold r32; omega) (fun _ => ?_) (fun z => absurd z (by omega)) (fun z => absurd z (by omega))))
            dsimp only [pushR]
            refine wp_goto 130 dX7_readsAct_126 rfl ?_
            refine wp_isv dX7_readsAct_130 (gs_ne (by decide) (gs_eq (gs_l (gs_l (gs_l (gs_lt t55)))))) (by decide) (by omega) ?_
            refine wp_goto 215 dX7_readsAct_131 rfl ?_
            exact wp_ret dX7_readsAct_215 rfl (by
                have ea : acS T ln i = ((nmX T ln (wE T ln i)), -1, i, 0, 0) := by first | (exfalso; omega) | exact acS_3b (by omega) ok1 ok2 | exact acS_b (by omega) (by omega) (by omega) (by have e1 : loK (kdF (wcd T i (wE T ln i))) = _ := (by unfold loK; (repeat' split) <;> omega : loK (kdF (wcd T i (wE T ln i))) = 0); have e2 : hiK (kdF (wcd T i (wE T ln i))) = _ := (by unfold hiK; (repeat' split) <;> omega : hiK (kdF (wcd T i (wE T ln i))) = 9); rw [e1, e2]; exact ok1) | exact acS_b (by omega) (by omega) (by omega) (by have e1 : loK (kdF (wcd T i (wE T ln i))) = _ := (by unfold loK; (repeat' split) <;> omega : loK (kdF (wcd T i (wE T ln i))) = 0); have e2 : hiK (kdF (wcd T i (wE T ln i))) = _ := (by unfold hiK; (repeat' split) <;> omega : hiK (kdF (wcd T i (wE T ln i))) = 2); rw [e1, e2]; exact ok1) | exact acS_b (by omega) (by omega) (by omega) (by have e1 : loK (kdF (wcd T i (wE T ln i))) = _ := (by unfold loK; (repeat' split) <;> omega : loK (kdF (wcd T i (wE T ln i))) = 1); have e2 : hiK (kdF (wcd T i (wE T ln i))) = _ := (by unfold hiK; (repeat' split) <;> omega : hiK (kdF (wcd T i (wE T ln i))) = 50); rw [e1, e2]; exact ok1) | exact acS_b (by omega) (by omega) (by omega) (by have e1 : loK (kdF (wcd T i (wE T ln i))) = _ := (by unfold loK; (repeat' split) <;> omega : loK (kdF (wcd T i (wE T ln i))) = 0); have e2 : hiK (kdF (wcd T i (wE T ln i))) = _ := (by unfold hiK; (repeat' split) <;> omega : hiK (kdF (wcd T i (wE T ln i))) = 5); rw [e1, e2]; exact ok1)
                rw [ea] at hQ0
                dsimp only at hQ0
                exact hQ0 (by omega) _ _ a1 (by omega) ⟨by simp only [List.length_set]; exact t1, fun j q51 q55 => by (repeat rw [List.getElem?_set_ne (by omega)]); exact t2 j q51 q55, (gs_ne (by decide) (gs_eq (gs_l (gs_l (gs_l (gs_l (gs_lt t51))))))), (gs_eq (gs_l (gs_l (gs_l (gs_l (gs_l (gs_lt t55)))))))⟩)
  · refine wp_aload_n dX7_readsAct_59 rfl ?_
    refine wp_iload_n dX7_readsAct_60 rfl ?_
    refine wp_iv1 dX7_readsAct_61 VX7_wrong lX7_231 (gs_eq (gs_lt t51)) (rq0 rfl rfl) (Nat.le_of_ble_eq_true rfl) (sa_of (gs_eq (gs_lt t51)) (C_wrong (gs_eq (gs_lt t51)) (by unfold r32; omega) ?_))
    dsimp only [pushR]
    rw [if_pos (by omega)]
    exact wp_ret dX7_readsAct_64 rfl (by
        have ea : acS T ln i = (i, -1, i, 0, 0) := acS_0 (by omega)
        rw [ea] at hQ0
        dsimp only at hQ0
        exact hQ0 (by omega) _ _ (wE T ln i) (by omega) ⟨by simp only [List.length_set]; exact t1, fun j q51 q55 => by (repeat rw [List.getElem?_set_ne (by omega)]); exact t2 j q51 q55, (gs_eq (gs_l (gs_lt t51))), (gs_ne (by decide) (gs_ne (by decide) t55))⟩)
end AR
