/-! plan, the reference; alike -/
def DRF (D : Int → Int) (n : Int) (K F S : Int → Int) : Prop := ∀ j, 0 ≤ j ∧ j < n → D (3 * j) = K j ∧ (K j ≠ 1 → K j ≠ 2 → D (3 * j + 1) = F j) ∧ (K j = 3 → D (3 * j + 2) = S j)
def WFA (k f s : Int) : Prop := (0 ≤ k ∧ k ≤ 7) ∧ (k = 0 ∨ k = 3 → 0 ≤ f ∧ f ≤ 9) ∧ (k = 3 → 0 ≤ s ∧ s ≤ 999) ∧ (k = 4 → 0 ≤ f ∧ f ≤ 2) ∧ (k = 5 → 1 ≤ f ∧ f ≤ 50) ∧ (k = 6 ∨ k = 7 → 0 ≤ f ∧ f ≤ 5)
def RPLN (c : Int) (r : Int × Int × (Int → Int) × (Int → Int) × (Int → Int)) (P PS P' PS' : Int → Int) : Prop :=
  (r.1 = -1 → PS' = ud PS c r.2.1 ∧ (∀ j, 0 ≤ j ∧ j < r.2.1 → P' (15 * c + 3 * j) = r.2.2.1 j ∧ (r.2.2.1 j ≠ 1 → r.2.2.1 j ≠ 2 → P' (15 * c + 3 * j + 1) = r.2.2.2.1 j) ∧ (r.2.2.1 j = 3 → P' (15 * c + 3 * j + 2) = r.2.2.2.2 j)) ∧ ∀ q, q < 15 * c ∨ 15 * c + 15 ≤ q → P' q = P q) ∧ (r.1 ≠ -1 → P' = P ∧ PS' = PS)
/-- plans alike -/
def PRel (K Fs S : Int → Int → Int) (sz P PS : Int → Int) : Prop := ∀ c, 0 ≤ c ∧ c < 6 → PS c = sz c ∧ (0 ≤ sz c ∧ sz c ≤ 5) ∧ ∀ j, 0 ≤ j ∧ j < sz c → WFA (K c j) (Fs c j) (S c j) ∧ P (15 * c + 3 * j) = K c j ∧ (K c j ≠ 1 → K c j ≠ 2 → P (15 * c + 3 * j + 1) = Fs c j) ∧ (K c j = 3 → P (15 * c + 3 * j + 2) = S c j)
section PR
variable {X : XS} {h h0 : AH} {Q : Option AV → AH → Prop} {T D K Fs S vf g Kp P PS Z R I : Int → Int} {ln i n dn km ft ac mn om fw mo un ik : Int} {b : Nat × Nat}
theorem drf_step {D' : Int → Int} {k f s : Int} (h : DRF D n K Fs S) (hn : 0 ≤ n) (hl : ∀ j, j < 3 * n → D' j = D j) (hk : D' (3 * n) = k) (hf : k ≠ 1 → k ≠ 2 → D' (3 * n + 1) = f) (hs : k = 3 → D' (3 * n + 2) = s) : DRF D' (n + 1) (ud K n k) (ud Fs n f) (ud S n s) := fun j hj => by
  rcases Decidable.em (j = n) with e | e
  · subst e
    rw [ud_eq, ud_eq, ud_eq]
    exact ⟨hk, hf, hs⟩
  · rw [ud_ne e, ud_ne e, ud_ne e, hl _ (by omega), hl _ (by omega), hl _ (by omega)]
    exact h j (by omega)
theorem acS_wf (hi : 0 ≤ i ∧ i ≤ ln ∧ ln ≤ 160) (h : (acS T ln i).1 = -1) : WFA (acS T ln i).2.1 (acS T ln i).2.2.2.1 (acS T ln i).2.2.2.2 := by
  have wb := wE_b (T := T) hi
  have kb := kdF_b (wcd T i (wE T ln i))
  have x1 := nmX_b (T := T) (ln := ln) (i := wE T ln i) (by omega)
  unfold acS at *
  generalize kdF (wcd T i (wE T ln i)) = k at *
  split at h
  · dsimp only at h; omega
  · rename_i c1
    rw [if_neg c1]
    split at h
    · rename_i c2
      rw [if_pos c2]
      unfold WFA; dsimp only; omega
    · rename_i c2
      rw [if_neg c2]
      split at h
      · rename_i hn
        rw [if_pos hn]
        have nb := nm_b (T := T) (ln := ln) hn.1.1
        have x2 := nmX_b (T := T) (ln := ln) (i := nmE T ln (wE T ln i)) (by omega)
        have b1 := hn.2.2
        have hh : loK k ≤ nmV T ln (wE T ln i) ∧ nmV T ln (wE T ln i) ≤ hiK k := b1
        have e1 : loK k = if k = 5 then 1 else 0 := rfl
        have e2 : hiK k = if k = 4 then 2 else if k = 5 then 50 else if k = 6 then 5 else if k = 7 then 5 else 9 := rfl
        have hw : WFA k (nmV T ln (wE T ln i)) 0 ∨ k = 3 ∧ nmV T ln (wE T ln i) ≤ 9 := by
          unfold WFA
          (repeat' split at e1) <;> (repeat' split at e2) <;> omega
        split at h
        · rename_i c3
          rw [if_pos c3]
          split at h
          · rename_i hm
            rw [if_pos hm]
            have b2 := hm.2.2
            unfold WFA at *
            dsimp only
            omega
          · dsimp only at h; omega
        · rename_i c3
          rw [if_neg c3]
          dsimp only
          exact hw.resolve_right (fun q => c3 q.1)
      · dsimp only at h; omega
theorem plS_wf (hl : ln ≤ 160) : ∀ (m : Nat) (n i : Int) (K F S : Int → Int), n + m = 5 → 0 ≤ n → 0 ≤ i ∧ i ≤ ln → (∀ j, 0 ≤ j ∧ j < n → WFA (K j) (F j) (S j)) → ∀ j, 0 ≤ j ∧ j < (plS T ln m n i K F S).2.1 → WFA ((plS T ln m n i K F S).2.2.1 j) ((plS T ln m n i K F S).2.2.2.1 j) ((plS T ln m n i K F S).2.2.2.2 j) := by
  intro m
  induction m with
  | zero => intro n i K F S h1 h2 h3 h4; exact h4
  | succ m ih =>
    intro n i K F S h1 h2 h3 h4
    have ab := acS_bd (T := T) (ln := ln) (i := i) ⟨h3.1, h3.2, hl⟩
    unfold plS
    split
    · exact h4
    · have wf := acS_wf (T := T) (ln := ln) (i := i) ⟨h3.1, h3.2, hl⟩ (by omega)
      have h5 : ∀ j, 0 ≤ j ∧ j < n + 1 → WFA (ud K n (acS T ln i).2.1 j) (ud F n (acS T ln i).2.2.2.1 j) (ud S n (acS T ln i).2.2.2.2 j) := fun j hj => by
        rcases Decidable.em (j = n) with e | e
        · subst e; rw [ud_eq, ud_eq, ud_eq]; exact wf
        · rw [ud_ne e, ud_ne e, ud_ne e]; exact h4 j (by omega)
      split
      · exact h5
      · split
        · exact ih _ _ _ _ _ (by omega) (by omega) (by omega) h5
        · exact h5
def ENDP (ln a ft n : Int) (D : Int → Int) (r : Int × Int × (Int → Int) × (Int → Int) × (Int → Int)) : Prop := (r.1 = -1 ∧ ft = -1 ∧ ln ≤ a ∧ n = r.2.1 ∧ DRF D n r.2.2.1 r.2.2.2.1 r.2.2.2.2) ∨ 0 ≤ r.1 ∧ (ft = r.1 ∨ ft = -1 ∧ a < ln ∧ a = r.1)
set_option maxHeartbeats 2000000 in
theorem lp_rp {c : Int} (h54 : h0[54]? = some (oI 160 T)) (h58 : h0[58]? = some (oL 8 vf)) (hv : ∀ k : Nat, k < 8 → vf k = vb k) (hT : ∀ j, 0 ≤ T j ∧ T j < 256) (hl : ln ≤ 160) : ∀ (m : Nat) (n i : Int) (D K Fs S : Int → Int) (h : AH), n + m = 5 → 0 ≤ n → 0 ≤ i ∧ i ≤ ln → RPL h0 h dn km ln i (-1) ac mn om fw mo un ik D → DRF D n K Fs S → (∀ h' D' a ft n', RPL h0 h' dn km ln a ft ac mn om fw mo un ik D' → r32 a → r32 ft → ENDP ln a ft n' D' (plS T ln m n i K Fs S) → Wp X kX7_plan 117 [some (vR 51), some (vI c), some (vI n'), some (vI 0)] [] h' b Q) → Wp X kX7_plan 23 [some (vR 51), some (vI c), some (vI n), some (vI 1)] [] h b Q := by
  intro m
  induction m with
  | zero =>
    intro n i D K Fs S h q1 q2 q3 ht hD hQ
    obtain ⟨t1, t2, t51, t55⟩ := id ht
    have t54 : h[54]? = some (oI 160 T) := (t2 54 (by decide) (by decide)).trans h54
    unfold plS at hQ
    refine wp_iload_n dX7_plan_23 rfl ?_
    refine wp_if_eq 117 dX7_plan_24 rfl ⟨by omega, by omega⟩ (fun c24 => absurd c24 (by omega)) (fun c24 => ?_)
    refine wp_aload_n dX7_plan_27 rfl ?_
    refine wp_getf dX7_plan_28 fX7_228 t51 rfl ?_
    refine wp_if_ge 117 dX7_plan_31 rfl ⟨by omega, by omega⟩ (fun c31 => absurd c31 (by omega)) (fun c31 => ?_)
    refine wp_iload_n dX7_plan_34 rfl ?_
    refine wp_iconst dX7_plan_35 ?_
    refine wp_icmp_ne 50 dX7_plan_36 rfl (by first | assumption | (unfold r32; omega)) ⟨by omega, by omega⟩ (fun c36 => ?_) (fun c36 => ?_)
    · exfalso; omega
    · refine wp_aload_n dX7_plan_39 rfl ?_
      refine wp_aload_n dX7_plan_40 rfl ?_
      refine wp_getf dX7_plan_41 fX7_221 t51 rfl ?_
      refine wp_iv1 dX7_plan_44 VX7_wrong lX7_231 t51 (rq0 rfl rfl) (Nat.le_of_ble_eq_true rfl) (sa_of t51 (C_wrong t51 (by unfold r32; omega) ?_))
      dsimp only [pushR]
      rw [if_pos (by omega)]
      refine wp_goto 58 dX7_plan_47 rfl ?_
      refine wp_aload_n dX7_plan_58 rfl ?_
      refine wp_getf dX7_plan_59 fX7_228 (gs_eq (gs_lt t51)) rfl ?_
      refine wp_if_ge 94 dX7_plan_62 rfl (by first | assumption | (unfold r32; omega)) (fun c62 => ?_) (fun c62 => ?_)
      · refine wp_iconst dX7_plan_94 ?_
        refine wp_istore_n (L' := [some (vR 51), some (vI c), some (vI n), some (vI 0)]) dX7_plan_95 (by decide) rfl ?_
        refine wp_aload_n dX7_plan_96 rfl ?_
        refine wp_dup dX7_plan_97 rfl ?_
        refine wp_getf dX7_plan_98 fX7_221 (gs_eq (gs_lt t51)) rfl ?_
        refine wp_iload_n dX7_plan_101 rfl ?_
        refine wp_if_eq 109 dX7_plan_102 rfl ⟨by omega, by omega⟩ (fun c102 => ?_) (fun c102 => absurd c102 (by omega))
        refine wp_iconst dX7_plan_109 ?_
        refine wp_iadd dX7_plan_110 ?_
        refine wp_putv (fs' := mF dn km ln (i + 0) i ac mn om fw mo un ik) dX7_plan_111 (pX7_221 rfl) (gs_eq (gs_lt t51)) (Nat.le_of_ble_eq_true rfl) (fitF_int _) rfl ?_
        refine wp_goto 23 dX7_plan_114 rfl ?_
        refine wp_iload_n dX7_plan_23 rfl ?_
        refine wp_if_eq 117 dX7_plan_24 rfl ⟨by omega, by omega⟩ (fun c24 => ?_) (fun c24 => absurd c24 (by omega))
        exact hQ _ _ _ _ _ ⟨by simp only [List.length_set]; exact ht.1, fun j q51 q55 => by (repeat rw [List.getElem?_set_ne (by omega)]); exact ht.2.1 j q51 q55, (gs_eq (gs_l (gs_lt t51))), (gs_ne (by decide) (gs_ne (by decide) t55))⟩ (by unfold r32; omega) (by unfold r32; omega) (Or.inr ⟨by dsimp only; omega, Or.inl rfl⟩)
      · refine wp_aload_n dX7_plan_65 rfl ?_
        refine wp_getf dX7_plan_66 fX7_221 (gs_eq (gs_lt t51)) rfl ?_
        refine wp_aload_n dX7_plan_69 rfl ?_
        refine wp_getf dX7_plan_70 fX7_218 (gs_eq (gs_lt t51)) rfl ?_
        refine wp_icmp_ge 94 dX7_plan_73 rfl (by first | assumption | (unfold r32; omega)) (by first | assumption | (unfold r32; omega)) (fun c73 => ?_) (fun c73 => ?_)
        · refine wp_iconst dX7_plan_94 ?_
          refine wp_istore_n (L' := [some (vR 51), some (vI c), some (vI n), some (vI 0)]) dX7_plan_95 (by decide) rfl ?_
          refine wp_aload_n dX7_plan_96 rfl ?_
          refine wp_dup dX7_plan_97 rfl ?_
          refine wp_getf dX7_plan_98 fX7_221 (gs_eq (gs_lt t51)) rfl ?_
          refine wp_iload_n dX7_plan_101 rfl ?_
          refine wp_if_eq 109 dX7_plan_102 rfl ⟨by omega, by omega⟩ (fun c102 => ?_) (fun c102 => absurd c102 (by omega))
          refine wp_iconst dX7_plan_109 ?_
          refine wp_iadd dX7_plan_110 ?_
          refine wp_putv (fs' := mF dn km ln (i + 0) i ac mn om fw mo un ik) dX7_plan_111 (pX7_221 rfl) (gs_eq (gs_lt t51)) (Nat.le_of_ble_eq_true rfl) (fitF_int _) rfl ?_
          refine wp_goto 23 dX7_plan_114 rfl ?_
          refine wp_iload_n dX7_plan_23 rfl ?_
          refine wp_if_eq 117 dX7_plan_24 rfl ⟨by omega, by omega⟩ (fun c24 => ?_) (fun c24 => absurd c24 (by omega))
          exact hQ _ _ _ _ _ ⟨by simp only [List.length_set]; exact ht.1, fun j q51 q55 => by (repeat rw [List.getElem?_set_ne (by omega)]); exact ht.2.1 j q51 q55, (gs_eq (gs_l (gs_lt t51))), (gs_ne (by decide) (gs_ne (by decide) t55))⟩ (by unfold r32; omega) (by unfold r32; omega) (Or.inr ⟨by dsimp only; omega, Or.inl rfl⟩)
        · refine wp_aload_n dX7_plan_76 rfl ?_
          refine wp_getf dX7_plan_77 fX7_16 (gs_eq (gs_lt t51)) rfl ?_
          refine wp_aload_n dX7_plan_80 rfl ?_
          refine wp_getf dX7_plan_81 fX7_221 (gs_eq (gs_lt t51)) rfl ?_
          refine wp_iav (v := T i) dX7_plan_84 (gs_ne (by decide) t54) (by decide) (by omega) rfl ?_
          refine wp_bipush dX7_plan_85 rfl ?_
          refine wp_icmp_ne 94 dX7_plan_87 rfl (by first | assumption | (unfold r32; omega)) ⟨by omega, by omega⟩ (fun c87 => ?_) (fun c87 => ?_)
          · refine wp_iconst dX7_plan_94 ?_
            refine wp_istore_n (L' := [some (vR 51), some (vI c), some (vI n), some (vI 0)]) dX7_plan_95 (by decide) rfl ?_
            refine wp_aload_n dX7_plan_96 rfl ?_
            refine wp_dup dX7_plan_97 rfl ?_
            refine wp_getf dX7_plan_98 fX7_221 (gs_eq (gs_lt t51)) rfl ?_
            refine wp_iload_n dX7_plan_101 rfl ?_
            refine wp_if_eq 109 dX7_plan_102 rfl ⟨by omega, by omega⟩ (fun c102 => ?_) (fun c102 => absurd c102 (by omega))
            refine wp_iconst dX7_plan_109 ?_
            refine wp_iadd dX7_plan_110 ?_
            refine wp_putv (fs' := mF dn km ln (i + 0) i ac mn om fw mo un ik) dX7_plan_111 (pX7_221 rfl) (gs_eq (gs_lt t51)) (Nat.le_of_ble_eq_true rfl) (fitF_int _) rfl ?_
            refine wp_goto 23 dX7_plan_114 rfl ?_
            refine wp_iload_n dX7_plan_23 rfl ?_
            refine wp_if_eq 117 dX7_plan_24 rfl ⟨by omega, by omega⟩ (fun c24 => ?_) (fun c24 => absurd c24 (by omega))
            exact hQ _ _ _ _ _ ⟨by simp only [List.length_set]; exact ht.1, fun j q51 q55 => by (repeat rw [List.getElem?_set_ne (by omega)]); exact ht.2.1 j q51 q55, (gs_eq (gs_l (gs_lt t51))), (gs_ne (by decide) (gs_ne (by decide) t55))⟩ (by unfold r32; omega) (by unfold r32; omega) (Or.inr ⟨by dsimp only; omega, Or.inl rfl⟩)
          · refine wp_iconst dX7_plan_90 ?_
            refine wp_goto 95 dX7_plan_91 rfl ?_
            refine wp_istore_n (L' := [some (vR 51), some (vI c), some (vI n), some (vI 1)]) dX7_plan_95 (by decide) rfl ?_
            refine wp_aload_n dX7_plan_96 rfl ?_
            refine wp_dup dX7_plan_97 rfl ?_
            refine wp_getf dX7_plan_98 fX7_221 (gs_eq (gs_lt t51)) rfl ?_
            refine wp_iload_n dX7_plan_101 rfl ?_
            refine wp_if_eq 109 dX7_plan_102 rfl ⟨by omega, by omega⟩ (fun c102 => absurd c102 (by omega)) (fun c102 => ?_)
            refine wp_iconst dX7_plan_105 ?_
            refine wp_goto 110 dX7_plan_106 rfl ?_
            refine wp_iadd dX7_plan_110 ?_
            refine wp_putv (fs' := mF dn km ln (i + 1) i ac mn om fw mo un ik) dX7_plan_111 (pX7_221 rfl) (gs_eq (gs_lt t51)) (Nat.le_of_ble_eq_true rfl) (fitF_int _) rfl ?_
            refine wp_goto 23 dX7_plan_114 rfl ?_
            exfalso; omega
  | succ m ih =>
    intro n i D K Fs S h q1 q2 q3 ht hD hQ
    obtain ⟨t1, t2, t51, t55⟩ := id ht
    have t54 : h[54]? = some (oI 160 T) := (t2 54 (by decide) (by decide)).trans h54
    have ab := acS_bd (T := T) (ln := ln) (i := i) ⟨q3.1, q3.2, hl⟩
    unfold plS at hQ
    refine wp_iload_n dX7_plan_23 rfl ?_
    refine wp_if_eq 117 dX7_plan_24 rfl ⟨by omega, by omega⟩ (fun c24 => absurd c24 (by omega)) (fun c24 => ?_)
    refine wp_aload_n dX7_plan_27 rfl ?_
    refine wp_getf dX7_plan_28 fX7_228 t51 rfl ?_
    refine wp_if_ge 117 dX7_plan_31 rfl ⟨by omega, by omega⟩ (fun c31 => absurd c31 (by omega)) (fun c31 => ?_)
    refine wp_iload_n dX7_plan_34 rfl ?_
    refine wp_iconst dX7_plan_35 ?_
    refine wp_icmp_ne 50 dX7_plan_36 rfl (by first | assumption | (unfold r32; omega)) ⟨by omega, by omega⟩ (fun c36 => ?_) (fun c36 => ?_)
    · refine wp_aload_n dX7_plan_50 rfl ?_
      refine wp_iload_n dX7_plan_51 rfl ?_
      refine wp_iv1 dX7_plan_52 VX7_readsAct lX7_252 t51 (rq0 rfl rfl) (Nat.le_of_ble_eq_true rfl) (C_readsAct ht h54 h58 hv hT ⟨q3.1, q3.2, hl⟩ (by omega) (fun ea h1 D1 tt d1 d2 d3 d4 => ?_) (fun ea h1 D1 a1 ha1 tt => ?_))
      · dsimp only [pushR]
        have te := hT (acS T ln i).2.2.1
        have u54 : h1[54]? = some (oI 160 T) := (tt.2.1 54 (by decide) (by decide)).trans h54
        refine wp_iinc (L' := [some (vR 51), some (vI c), some (vI (n + 1)), some (vI 1)]) dX7_plan_55 rfl rfl ?_
        refine wp_aload_n dX7_plan_58 rfl ?_
        refine wp_getf dX7_plan_59 fX7_228 tt.2.2.1 rfl ?_
        refine wp_if_ge 94 dX7_plan_62 rfl ⟨by omega, by omega⟩ (fun c62 => absurd c62 (by omega)) (fun c62 => ?_)
        refine wp_aload_n dX7_plan_65 rfl ?_
        refine wp_getf dX7_plan_66 fX7_221 tt.2.2.1 rfl ?_
        refine wp_aload_n dX7_plan_69 rfl ?_
        refine wp_getf dX7_plan_70 fX7_218 tt.2.2.1 rfl ?_
        refine wp_icmp_ge 94 dX7_plan_73 rfl (by first | assumption | (unfold r32; omega)) (by first | assumption | (unfold r32; omega)) (fun c73 => ?_) (fun c73 => ?_)
        · refine wp_iconst dX7_plan_94 ?_
          refine wp_istore_n (L' := [some (vR 51), some (vI c), some (vI (n + 1)), some (vI 0)]) dX7_plan_95 (by decide) rfl ?_
          refine wp_aload_n dX7_plan_96 rfl ?_
          refine wp_dup dX7_plan_97 rfl ?_
          refine wp_getf dX7_plan_98 fX7_221 tt.2.2.1 rfl ?_
          refine wp_iload_n dX7_plan_101 rfl ?_
          refine wp_if_eq 109 dX7_plan_102 rfl ⟨by omega, by omega⟩ (fun c102 => ?_) (fun c102 => absurd c102 (by omega))
          refine wp_iconst dX7_plan_109 ?_
          refine wp_iadd dX7_plan_110 ?_
          refine wp_putv (fs' := mF dn km ln ((acS T ln i).2.2.1 + 0) (-1) ac mn om fw mo un ik) dX7_plan_111 (pX7_221 rfl) tt.2.2.1 (Nat.le_of_ble_eq_true rfl) (fitF_int _) rfl ?_
          refine wp_goto 23 dX7_plan_114 rfl ?_
          refine wp_iload_n dX7_plan_23 rfl ?_
          refine wp_if_eq 117 dX7_plan_24 rfl ⟨by omega, by omega⟩ (fun c24 => ?_) (fun c24 => absurd c24 (by omega))
          rw [if_neg (by omega)] at hQ
          rcases Decidable.em (ln ≤ (acS T ln i).2.2.1) with cl | cl
          · rw [if_pos cl] at hQ
            exact hQ _ _ _ _ _ ⟨by simp only [List.length_set]; exact tt.1, fun j q51 q55 => by (repeat rw [List.getElem?_set_ne (by omega)]); exact tt.2.1 j q51 q55, (gs_eq (gs_lt tt.2.2.1)), (gs_ne (by decide) tt.2.2.2)⟩ (by unfold r32; omega) (by unfold r32; omega) (Or.inl ⟨rfl, rfl, by omega, rfl, drf_step hD q2 d1 d2 d3 d4⟩)
          · rw [if_neg cl, if_neg (by omega)] at hQ
            exact hQ _ _ _ _ _ ⟨by simp only [List.length_set]; exact tt.1, fun j q51 q55 => by (repeat rw [List.getElem?_set_ne (by omega)]); exact tt.2.1 j q51 q55, (gs_eq (gs_lt tt.2.2.1)), (gs_ne (by decide) tt.2.2.2)⟩ (by unfold r32; omega) (by unfold r32; omega) (Or.inr ⟨by dsimp only; omega, Or.inr ⟨rfl, by omega, by dsimp only; omega⟩⟩)
        · refine wp_aload_n dX7_plan_76 rfl ?_
          refine wp_getf dX7_plan_77 fX7_16 tt.2.2.1 rfl ?_
          refine wp_aload_n dX7_plan_80 rfl ?_
          refine wp_getf dX7_plan_81 fX7_221 tt.2.2.1 rfl ?_
          refine wp_iav (v := T ((acS T ln i).2.2.1)) dX7_plan_84 u54 (by decide) (by omega) rfl ?_
          refine wp_bipush dX7_plan_85 rfl ?_
          refine wp_icmp_ne 94 dX7_plan_87 rfl (by first | assumption | (unfold r32; omega)) ⟨by omega, by omega⟩ (fun c87 => ?_) (fun c87 => ?_)
          · refine wp_iconst dX7_plan_94 ?_
            refine wp_istore_n (L' := [some (vR 51), some (vI c), some (vI (n + 1)), some (vI 0)]) dX7_plan_95 (by decide) rfl ?_
            refine wp_aload_n dX7_plan_96 rfl ?_
            refine wp_dup dX7_plan_97 rfl ?_
            refine wp_getf dX7_plan_98 fX7_221 tt.2.2.1 rfl ?_
            refine wp_iload_n dX7_plan_101 rfl ?_
            refine wp_if_eq 109 dX7_plan_102 rfl ⟨by omega, by omega⟩ (fun c102 => ?_) (fun c102 => absurd c102 (by omega))
            refine wp_iconst dX7_plan_109 ?_
            refine wp_iadd dX7_plan_110 ?_
            refine wp_putv (fs' := mF dn km ln ((acS T ln i).2.2.1 + 0) (-1) ac mn om fw mo un ik) dX7_plan_111 (pX7_221 rfl) tt.2.2.1 (Nat.le_of_ble_eq_true rfl) (fitF_int _) rfl ?_
            refine wp_goto 23 dX7_plan_114 rfl ?_
            refine wp_iload_n dX7_plan_23 rfl ?_
            refine wp_if_eq 117 dX7_plan_24 rfl ⟨by omega, by omega⟩ (fun c24 => ?_) (fun c24 => absurd c24 (by omega))
            rw [if_neg (by omega)] at hQ
            rcases Decidable.em (ln ≤ (acS T ln i).2.2.1) with cl | cl
            · rw [if_pos cl] at hQ
              exact hQ _ _ _ _ _ ⟨by simp only [List.length_set]; exact tt.1, fun j q51 q55 => by (repeat rw [List.getElem?_set_ne (by omega)]); exact tt.2.1 j q51 q55, (gs_eq (gs_lt tt.2.2.1)), (gs_ne (by decide) tt.2.2.2)⟩ (by unfold r32; omega) (by unfold r32; omega) (Or.inl ⟨rfl, rfl, by omega, rfl, drf_step hD q2 d1 d2 d3 d4⟩)
            · rw [if_neg cl, if_neg (by omega)] at hQ
              exact hQ _ _ _ _ _ ⟨by simp only [List.length_set]; exact tt.1, fun j q51 q55 => by (repeat rw [List.getElem?_set_ne (by omega)]); exact tt.2.1 j q51 q55, (gs_eq (gs_lt tt.2.2.1)), (gs_ne (by decide) tt.2.2.2)⟩ (by unfold r32; omega) (by unfold r32; omega) (Or.inr ⟨by dsimp only; omega, Or.inr ⟨rfl, by omega, by dsimp only; omega⟩⟩)
          · refine wp_iconst dX7_plan_90 ?_
            refine wp_goto 95 dX7_plan_91 rfl ?_
            refine wp_istore_n (L' := [some (vR 51), some (vI c), some (vI (n + 1)), some (vI 1)]) dX7_plan_95 (by decide) rfl ?_
            refine wp_aload_n dX7_plan_96 rfl ?_
            refine wp_dup dX7_plan_97 rfl ?_
            refine wp_getf dX7_plan_98 fX7_221 tt.2.2.1 rfl ?_
            refine wp_iload_n dX7_plan_101 rfl ?_
            refine wp_if_eq 109 dX7_plan_102 rfl ⟨by omega, by omega⟩ (fun c102 => absurd c102 (by omega)) (fun c102 => ?_)
            refine wp_iconst dX7_plan_105 ?_
            refine wp_goto 110 dX7_plan_106 rfl ?_
            refine wp_iadd dX7_plan_110 ?_
            refine wp_putv (fs' := mF dn km ln ((acS T ln i).2.2.1 + 1) (-1) ac mn om fw mo un ik) dX7_plan_111 (pX7_221 rfl) tt.2.2.1 (Nat.le_of_ble_eq_true rfl) (fitF_int _) rfl ?_
            refine wp_goto 23 dX7_plan_114 rfl ?_
            rw [if_neg (by omega), if_neg (by omega), if_pos (by omega)] at hQ
            exact ih (n + 1) _ _ _ _ _ _ (by omega) (by omega) (by omega) ⟨by simp only [List.length_set]; exact tt.1, fun j q51 q55 => by (repeat rw [List.getElem?_set_ne (by omega)]); exact tt.2.1 j q51 q55, (gs_eq (gs_lt tt.2.2.1)), (gs_ne (by decide) tt.2.2.2)⟩ (drf_step hD q2 d1 d2 d3 d4) hQ
      · dsimp only [pushR]
        rw [if_pos ea] at hQ
        have u54 : h1[54]? = some (oI 160 T) := (tt.2.1 54 (by decide) (by decide)).trans h54
        refine wp_iinc (L' := [some (vR 51), some (vI c), some (vI (n + 1)), some (vI 1)]) dX7_plan_55 rfl rfl ?_
        refine wp_aload_n dX7_plan_58 rfl ?_
        refine wp_getf dX7_plan_59 fX7_228 tt.2.2.1 rfl ?_
        refine wp_if_ge 94 dX7_plan_62 rfl (by first | assumption | (unfold r32; omega)) (fun c62 => ?_) (fun c62 => ?_)
        · refine wp_iconst dX7_plan_94 ?_
          refine wp_istore_n (L' := [some (vR 51), some (vI c), some (vI (n + 1)), some (vI 0)]) dX7_plan_95 (by decide) rfl ?_
          refine wp_aload_n dX7_plan_96 rfl ?_
          refine wp_dup dX7_plan_97 rfl ?_
          refine wp_getf dX7_plan_98 fX7_221 tt.2.2.1 rfl ?_
          refine wp_iload_n dX7_plan_101 rfl ?_
          refine wp_if_eq 109 dX7_plan_102 rfl ⟨by omega, by omega⟩ (fun c102 => ?_) (fun c102 => absurd c102 (by omega))
          refine wp_iconst dX7_plan_109 ?_
          refine wp_iadd dX7_plan_110 ?_
          refine wp_putv (fs' := mF dn km ln (a1 + 0) ((acS T ln i).1) ac mn om fw mo un ik) dX7_plan_111 (pX7_221 rfl) tt.2.2.1 (Nat.le_of_ble_eq_true rfl) (fitF_int _) rfl ?_
          refine wp_goto 23 dX7_plan_114 rfl ?_
          refine wp_iload_n dX7_plan_23 rfl ?_
          refine wp_if_eq 117 dX7_plan_24 rfl ⟨by omega, by omega⟩ (fun c24 => ?_) (fun c24 => absurd c24 (by omega))
          exact hQ _ _ _ _ _ ⟨by simp only [List.length_set]; exact tt.1, fun j q51 q55 => by (repeat rw [List.getElem?_set_ne (by omega)]); exact tt.2.1 j q51 q55, (gs_eq (gs_lt tt.2.2.1)), (gs_ne (by decide) tt.2.2.2)⟩ (by unfold r32; omega) (by unfold r32; omega) (Or.inr ⟨ea, Or.inl rfl⟩)
        · refine wp_aload_n dX7_plan_65 rfl ?_
          refine wp_getf dX7_plan_66 fX7_221 tt.2.2.1 rfl ?_
          refine wp_aload_n dX7_plan_69 rfl ?_
          refine wp_getf dX7_plan_70 fX7_218 tt.2.2.1 rfl ?_
          refine wp_icmp_ge 94 dX7_plan_73 rfl (by first | assumption | (unfold r32; omega)) (by first | assumption | (unfold r32; omega)) (fun c73 => ?_) (fun c73 => ?_)
          · refine wp_iconst dX7_plan_94 ?_
            refine wp_istore_n (L' := [some (vR 51), some (vI c), some (vI (n + 1)), some (vI 0)]) dX7_plan_95 (by decide) rfl ?_
            refine wp_aload_n dX7_plan_96 rfl ?_
            refine wp_dup dX7_plan_97 rfl ?_
            refine wp_getf dX7_plan_98 fX7_221 tt.2.2.1 rfl ?_
            refine wp_iload_n dX7_plan_101 rfl ?_
            refine wp_if_eq 109 dX7_plan_102 rfl ⟨by omega, by omega⟩ (fun c102 => ?_) (fun c102 => absurd c102 (by omega))
            refine wp_iconst dX7_plan_109 ?_
            refine wp_iadd dX7_plan_110 ?_
            refine wp_putv (fs' := mF dn km ln (a1 + 0) ((acS T ln i).1) ac mn om fw mo un ik) dX7_plan_111 (pX7_221 rfl) tt.2.2.1 (Nat.le_of_ble_eq_true rfl) (fitF_int _) rfl ?_
            refine wp_goto 23 dX7_plan_114 rfl ?_
            refine wp_iload_n dX7_plan_23 rfl ?_
            refine wp_if_eq 117 dX7_plan_24 rfl ⟨by omega, by omega⟩ (fun c24 => ?_) (fun c24 => absurd c24 (by omega))
            exact hQ _ _ _ _ _ ⟨by simp only [List.length_set]; exact tt.1, fun j q51 q55 => by (repeat rw [List.getElem?_set_ne (by omega)]); exact tt.2.1 j q51 q55, (gs_eq (gs_lt tt.2.2.1)), (gs_ne (by decide) tt.2.2.2)⟩ (by unfold r32; omega) (by unfold r32; omega) (Or.inr ⟨ea, Or.inl rfl⟩)
          · refine wp_aload_n dX7_plan_76 rfl ?_
            refine wp_getf dX7_plan_77 fX7_16 tt.2.2.1 rfl ?_
            refine wp_aload_n dX7_plan_80 rfl ?_
            refine wp_getf dX7_plan_81 fX7_221 tt.2.2.1 rfl ?_
            refine wp_iav (v := T a1) dX7_plan_84 u54 (by decide) (by omega) rfl ?_
            refine wp_bipush dX7_plan_85 rfl ?_
            refine wp_icmp_ne 94 dX7_plan_87 rfl (by first | assumption | (unfold r32; omega)) ⟨by omega, by omega⟩ (fun c87 => ?_) (fun c87 => ?_)
            · refine wp_iconst dX7_plan_94 ?_
              refine wp_istore_n (L' := [some (vR 51), some (vI c), some (vI (n + 1)), some (vI 0)]) dX7_plan_95 (by decide) rfl ?_
              refine wp_aload_n dX7_plan_96 rfl ?_
              refine wp_dup dX7_plan_97 rfl ?_
              refine wp_getf dX7_plan_98 fX7_221 tt.2.2.1 rfl ?_
              refine wp_iload_n dX7_plan_101 rfl ?_
              refine wp_if_eq 109 dX7_plan_102 rfl ⟨by omega, by omega⟩ (fun c102 => ?_) (fun c102 => absurd c102 (by omega))
              refine wp_iconst dX7_plan_109 ?_
              refine wp_iadd dX7_plan_110 ?_
              refine wp_putv (fs' := mF dn km ln (a1 + 0) ((acS T ln i).1) ac mn om fw mo un ik) dX7_plan_111 (pX7_221 rfl) tt.2.2.1 (Nat.le_of_ble_eq_true rfl) (fitF_int _) rfl ?_
              refine wp_goto 23 dX7_plan_114 rfl ?_
              refine wp_iload_n dX7_plan_23 rfl ?_
              refine wp_if_eq 117 dX7_plan_24 rfl ⟨by omega, by omega⟩ (fun c24 => ?_) (fun c24 => absurd c24 (by omega))
              exact hQ _ _ _ _ _ ⟨by simp only [List.length_set]; exact tt.1, fun j q51 q55 => by (repeat rw [List.getElem?_set_ne (by omega)]); exact tt.2.1 j q51 q55, (gs_eq (gs_lt tt.2.2.1)), (gs_ne (by decide) tt.2.2.2)⟩ (by unfold r32; omega) (by unfold r32; omega) (Or.inr ⟨ea, Or.inl rfl⟩)
            · refine wp_iconst dX7_plan_90 ?_
              refine wp_goto 95 dX7_plan_91 rfl ?_
              refine wp_istore_n (L' := [some (vR 51), some (vI c), some (vI (n + 1)), some (vI 1)]) dX7_plan_95 (by decide) rfl ?_
              refine wp_aload_n dX7_plan_96 rfl ?_
              refine wp_dup dX7_plan_97 rfl ?_
              refine wp_getf dX7_plan_98 fX7_221 tt.2.2.1 rfl ?_
              refine wp_iload_n dX7_plan_101 rfl ?_
              refine wp_if_eq 109 dX7_plan_102 rfl ⟨by omega, by omega⟩ (fun c102 => absurd c102 (by omega)) (fun c102 => ?_)
              refine wp_iconst dX7_plan_105 ?_
              refine wp_goto 110 dX7_plan_106 rfl ?_
              refine wp_iadd dX7_plan_110 ?_
              refine wp_putv (fs' := mF dn km ln (a1 + 1) ((acS T ln i).1) ac mn om fw mo un ik) dX7_plan_111 (pX7_221 rfl) tt.2.2.1 (Nat.le_of_ble_eq_true rfl) (fitF_int _) rfl ?_
              refine wp_goto 23 dX7_plan_114 rfl ?_
              exfalso; omega
    · exfalso; omega
theorem MV.pl {h' : AH} {at_ ft' ac' mn' om' fw' mo' un' ln' : Int} {P' PS' : Int → Int} (hM : MV h g Kp dn km T ln P PS R Z I ik) (h51 : h'[51]? = some (oO 7 (mF dn km ln' at_ ft' ac' mn' om' fw' mo' un' ik))) (h55 : ∃ f, h'[55]? = some (oI 15 f)) (h56 : h'[56]? = some (oI 90 P')) (h57 : h'[57]? = some (oI 6 PS')) (fr : ∀ i, i ≠ 51 → i ≠ 55 → i ≠ 56 → i ≠ 57 → h'[i]? = h[i]?) : MV h' g Kp dn km T ln' P' PS' R Z I ik := by
  obtain ⟨⟨a1, a2, a3, a4, a5, a6, a7, a8, q0⟩, q1, q2, q3, ⟨f5, q4⟩, q5, q6, ⟨f7, q7⟩, ⟨f8, q8⟩, ⟨f9, q9⟩, ⟨f10, q10⟩, ⟨f11, q11⟩, ⟨f12, q12⟩, ⟨f13, q13⟩, ⟨f14, q14⟩, q15, q16, q17, ⟨f18, q18, q19⟩⟩ := hM
  have e : ∀ i, i ≠ 51 → i ≠ 55 → i ≠ 56 → i ≠ 57 → ∀ {x}, h[i]? = x → h'[i]? = x := fun i a b c d x hx => (fr i a b c d).trans hx
  exact ⟨⟨_, _, _, _, _, _, _, _, h51⟩, e 52 (by decide) (by decide) (by decide) (by decide) q1, e 53 (by decide) (by decide) (by decide) (by decide) q2, e 54 (by decide) (by decide) (by decide) (by decide) q3, h55, h56, h57, ⟨f7, e 59 (by decide) (by decide) (by decide) (by decide) q7⟩, ⟨f8, e 60 (by decide) (by decide) (by decide) (by decide) q8⟩, ⟨f9, e 61 (by decide) (by decide) (by decide) (by decide) q9⟩, ⟨f10, e 62 (by decide) (by decide) (by decide) (by decide) q10⟩, ⟨f11, e 63 (by decide) (by decide) (by decide) (by decide) q11⟩, ⟨f12, e 64 (by decide) (by decide) (by decide) (by decide) q12⟩, ⟨f13, e 65 (by decide) (by decide) (by decide) (by decide) q13⟩, ⟨f14, e 66 (by decide) (by decide) (by decide) (by decide) q14⟩, e 67 (by decide) (by decide) (by decide) (by decide) q15, e 68 (by decide) (by decide) (by decide) (by decide) q16, e 69 (by decide) (by decide) (by decide) (by decide) q17, ⟨f18, e 58 (by decide) (by decide) (by decide) (by decide) q18, q19⟩⟩
set_option maxHeartbeats 2000000 in
theorem lp_re2 {c a n : Int} {h1 : AH} {r : Int × Int × (Int → Int) × (Int → Int) × (Int → Int)} (hM : MV h g Kp dn km T ln P PS R Z I ik) (hc : 0 ≤ c ∧ c < 6) (tt : RPL h h1 dn km ln a ft ac mn om fw mo un ik D) (ra : r32 a) (rf : r32 ft) (hl : ln ≤ 160) (hr : (-1 ≤ r.1 ∧ r.1 ≤ 160) ∧ 0 ≤ r.2.1 ∧ r.2.1 ≤ 5) (hE : ENDP ln a ft n D r) (hl0 : 0 ≤ ln) (hQ : ∀ h' P' PS', MV h' g Kp dn km T 0 P' PS' R Z I ik → FRm h h' → RPLN c r P PS P' PS' → Q (some (vI (plA r))) h') : Wp X kX7_plan 117 [some (vR 51), some (vI c), some (vI n), some (vI 0)] [] h1 b Q := by
  obtain ⟨t1, t2, t51, t55⟩ := id tt
  obtain ⟨-, m52, m53, m54, -, m56, m57, -⟩ := id hM
  have u56 : h1[56]? = some (oI 90 P) := (t2 56 (by decide) (by decide)).trans m56
  have u57 : h1[57]? = some (oI 6 PS) := (t2 57 (by decide) (by decide)).trans m57
  have hA : plA r = if r.1 = -1 then r.2.1 else -100 - r.1 := rfl
  unfold ENDP at hE
  refine wp_aload_n dX7_plan_117 rfl ?_
  refine wp_getf dX7_plan_118 fX7_228 t51 rfl ?_
  refine wp_if_ge 143 dX7_plan_121 rfl (by first | assumption | (unfold r32; omega)) (fun c121 => ?_) (fun c121 => ?_)
  · refine wp_aload_n dX7_plan_143 rfl ?_
    refine wp_iconst dX7_plan_144 ?_
    refine wp_putv (fs' := mF dn km 0 a ft ac mn om fw mo un ik) dX7_plan_145 (pX7_218 rfl) t51 (Nat.le_of_ble_eq_true rfl) (fitF_int _) rfl ?_
    refine wp_aload_n dX7_plan_148 rfl ?_
    refine wp_getf dX7_plan_149 fX7_228 (gs_eq (gs_lt t51)) rfl ?_
    refine wp_if_lt 163 dX7_plan_152 rfl (by first | assumption | (unfold r32; omega)) (fun c152 => ?_) (fun c152 => ?_)
    · refine wp_aload_n dX7_plan_163 rfl ?_
      refine wp_getf dX7_plan_164 fX7_25 (gs_eq (gs_lt t51)) rfl ?_
      refine wp_iload_n dX7_plan_167 rfl ?_
      refine wp_iload_n dX7_plan_168 rfl ?_
      refine wp_isv dX7_plan_169 (gs_ne (by decide) u57) (by decide) (by omega) ?_
      refine wp_aload_n dX7_plan_170 rfl ?_
      refine wp_getf dX7_plan_171 fX7_19 (gs_ne (by decide) (gs_eq (gs_lt t51))) rfl ?_
      refine wp_iconst dX7_plan_174 ?_
      refine wp_aload_n dX7_plan_175 rfl ?_
      refine wp_getf dX7_plan_176 fX7_22 (gs_ne (by decide) (gs_eq (gs_lt t51))) rfl ?_
      refine wp_bipush dX7_plan_179 rfl ?_
      refine wp_iload_n dX7_plan_181 rfl ?_
      refine wp_imul dX7_plan_182 ?_
      refine wp_iconst dX7_plan_183 ?_
      refine wp_iload_n dX7_plan_184 rfl ?_
      refine wp_imul dX7_plan_185 ?_
      refine wp_copyi dX7_plan_186 aX7_86 (gs_ne (by decide) (gs_ne (by decide) t55)) (gs_ne (by decide) (gs_ne (by decide) u56)) (by decide) (by decide) (by omega) (by omega) (by omega) (by omega) (by omega) (Nat.le_of_ble_eq_true rfl) (Nat.le_of_ble_eq_true rfl) ?_
      refine wp_iload_n dX7_plan_189 rfl ?_
      exact wp_iret dX7_plan_190 rfl (by
          obtain ⟨e1, e2, e3, e4, e5⟩ := hE.resolve_right (fun q => by omega)
          have q := hQ (((h1.set 51 (oO 7 (mF dn km 0 a ft ac mn om fw mo un ik))).set 57 (oI 6 (ud PS c n))).set 56 (oI 90 (cpI D P 0 (15 * c) (3 * n)))) _ _ (MV.pl hM (gs_ne (by decide) (gs_ne (by decide) (gs_eq (gs_lt t51)))) ⟨_, (gs_ne (by decide) (gs_ne (by decide) (gs_ne (by decide) t55)))⟩ (gs_eq (gs_l (gs_l (gs_lt u56)))) (gs_ne (by decide) (gs_eq (gs_l (gs_lt u57)))) (fun j q51 q55 q56 q57 => by (repeat rw [List.getElem?_set_ne (by omega)]); exact t2 j q51 q55)) ⟨by simp only [List.length_set]; exact t1, fun j hj => by (repeat rw [List.getElem?_set_ne (by omega)]); exact t2 j (by omega) (by omega)⟩ ⟨fun _ => ⟨by rw [← e4], fun j hj => ?_, fun q hq => ?_⟩, fun z => absurd e1 z⟩
          · rw [hA, if_pos e1, ← e4] at q; exact q
          · have d := e5 j (by omega)
            unfold cpI
            rw [if_pos (by omega), if_pos (by omega), if_pos (by omega), show 0 + (15 * c + 3 * j - 15 * c) = 3 * j by omega, show 0 + (15 * c + 3 * j + 1 - 15 * c) = 3 * j + 1 by omega, show 0 + (15 * c + 3 * j + 2 - 15 * c) = 3 * j + 2 by omega]
            exact d
          · unfold cpI; rw [if_neg (by omega)])
    · refine wp_bipush dX7_plan_155 rfl ?_
      refine wp_aload_n dX7_plan_157 rfl ?_
      refine wp_getf dX7_plan_158 fX7_228 (gs_eq (gs_lt t51)) rfl ?_
      refine wp_isub dX7_plan_161 ?_
      exact wp_iret dX7_plan_162 rfl (by
          have q := hQ (h1.set 51 (oO 7 (mF dn km 0 a ft ac mn om fw mo un ik))) _ _ (MV.pl hM (gs_eq (gs_lt t51)) ⟨_, (gs_ne (by decide) t55)⟩ (gs_ne (by decide) u56) (gs_ne (by decide) u57) (fun j q51 q55 q56 q57 => by (repeat rw [List.getElem?_set_ne (by omega)]); exact t2 j q51 q55)) ⟨by simp only [List.length_set]; exact t1, fun j hj => by (repeat rw [List.getElem?_set_ne (by omega)]); exact t2 j (by omega) (by omega)⟩ ⟨fun z => by omega, fun _ => ⟨rfl, rfl⟩⟩
          have e1 : r.1 = ft := by omega
          rw [hA, if_neg (by omega), e1] at q
          exact q)
  · refine wp_aload_n dX7_plan_124 rfl ?_
    refine wp_getf dX7_plan_125 fX7_221 t51 rfl ?_
    refine wp_aload_n dX7_plan_128 rfl ?_
    refine wp_getf dX7_plan_129 fX7_218 t51 rfl ?_
    refine wp_icmp_ge 143 dX7_plan_132 rfl (by first | assumption | (unfold r32; omega)) (by first | assumption | (unfold r32; omega)) (fun c132 => ?_) (fun c132 => ?_)
    · refine wp_aload_n dX7_plan_143 rfl ?_
      refine wp_iconst dX7_plan_144 ?_
      refine wp_putv (fs' := mF dn km 0 a ft ac mn om fw mo un ik) dX7_plan_145 (pX7_218 rfl) t51 (Nat.le_of_ble_eq_true rfl) (fitF_int _) rfl ?_
      refine wp_aload_n dX7_plan_148 rfl ?_
      refine wp_getf dX7_plan_149 fX7_228 (gs_eq (gs_lt t51)) rfl ?_
      refine wp_if_lt 163 dX7_plan_152 rfl (by first | assumption | (unfold r32; omega)) (fun c152 => ?_) (fun c152 => ?_)
      · refine wp_aload_n dX7_plan_163 rfl ?_
        refine wp_getf dX7_plan_164 fX7_25 (gs_eq (gs_lt t51)) rfl ?_
        refine wp_iload_n dX7_plan_167 rfl ?_
        refine wp_iload_n dX7_plan_168 rfl ?_
        refine wp_isv dX7_plan_169 (gs_ne (by decide) u57) (by decide) (by omega) ?_
        refine wp_aload_n dX7_plan_170 rfl ?_
        refine wp_getf dX7_plan_171 fX7_19 (gs_ne (by decide) (gs_eq (gs_lt t51))) rfl ?_
        refine wp_iconst dX7_plan_174 ?_
        refine wp_aload_n dX7_plan_175 rfl ?_
        refine wp_getf dX7_plan_176 fX7_22 (gs_ne (by decide) (gs_eq (gs_lt t51))) rfl ?_
        refine wp_bipush dX7_plan_179 rfl ?_
        refine wp_iload_n dX7_plan_181 rfl ?_
        refine wp_imul dX7_plan_182 ?_
        refine wp_iconst dX7_plan_183 ?_
        refine wp_iload_n dX7_plan_184 rfl ?_
        refine wp_imul dX7_plan_185 ?_
        refine wp_copyi dX7_plan_186 aX7_86 (gs_ne (by decide) (gs_ne (by decide) t55)) (gs_ne (by decide) (gs_ne (by decide) u56)) (by decide) (by decide) (by omega) (by omega) (by omega) (by omega) (by omega) (Nat.le_of_ble_eq_true rfl) (Nat.le_of_ble_eq_true rfl) ?_
        refine wp_iload_n dX7_plan_189 rfl ?_
        exact wp_iret dX7_plan_190 rfl (by
            obtain ⟨e1, e2, e3, e4, e5⟩ := hE.resolve_right (fun q => by omega)
            have q := hQ (((h1.set 51 (oO 7 (mF dn km 0 a ft ac mn om fw mo un ik))).set 57 (oI 6 (ud PS c n))).set 56 (oI 90 (cpI D P 0 (15 * c) (3 * n)))) _ _ (MV.pl hM (gs_ne (by decide) (gs_ne (by decide) (gs_eq (gs_lt t51)))) ⟨_, (gs_ne (by decide) (gs_ne (by decide) (gs_ne (by decide) t55)))⟩ (gs_eq (gs_l (gs_l (gs_lt u56)))) (gs_ne (by decide) (gs_eq (gs_l (gs_lt u57)))) (fun j q51 q55 q56 q57 => by (repeat rw [List.getElem?_set_ne (by omega)]); exact t2 j q51 q55)) ⟨by simp only [List.length_set]; exact t1, fun j hj => by (repeat rw [List.getElem?_set_ne (by omega)]); exact t2 j (by omega) (by omega)⟩ ⟨fun _ => ⟨by rw [← e4], fun j hj => ?_, fun q hq => ?_⟩, fun z => absurd e1 z⟩
            · rw [hA, if_pos e1, ← e4] at q; exact q
            · have d := e5 j (by omega)
              unfold cpI
              rw [if_pos (by omega), if_pos (by omega), if_pos (by omega), show 0 + (15 * c + 3 * j - 15 * c) = 3 * j by omega, show 0 + (15 * c + 3 * j + 1 - 15 * c) = 3 * j + 1 by omega, show 0 + (15 * c + 3 * j + 2 - 15 * c) = 3 * j + 2 by omega]
              exact d
            · unfold cpI; rw [if_neg (by omega)])
      · refine wp_bipush dX7_plan_155 rfl ?_
        refine wp_aload_n dX7_plan_157 rfl ?_
        refine wp_getf dX7_plan_158 fX7_228 (gs_eq (gs_lt t51)) rfl ?_
        refine wp_isub dX7_plan_161 ?_
        exact wp_iret dX7_plan_162 rfl (by
            have q := hQ (h1.set 51 (oO 7 (mF dn km 0 a ft ac mn om fw mo un ik))) _ _ (MV.pl hM (gs_eq (gs_lt t51)) ⟨_, (gs_ne (by decide) t55)⟩ (gs_ne (by decide) u56) (gs_ne (by decide) u57) (fun j q51 q55 q56 q57 => by (repeat rw [List.getElem?_set_ne (by omega)]); exact t2 j q51 q55)) ⟨by simp only [List.length_set]; exact t1, fun j hj => by (repeat rw [List.getElem?_set_ne (by omega)]); exact t2 j (by omega) (by omega)⟩ ⟨fun z => by omega, fun _ => ⟨rfl, rfl⟩⟩
            have e1 : r.1 = ft := by omega
            rw [hA, if_neg (by omega), e1] at q
            exact q)
    · refine wp_aload_n dX7_plan_135 rfl ?_
      refine wp_aload_n dX7_plan_136 rfl ?_
      refine wp_getf dX7_plan_137 fX7_221 t51 rfl ?_
      refine wp_iv1 dX7_plan_140 VX7_wrong lX7_231 t51 (rq0 rfl rfl) (Nat.le_of_ble_eq_true rfl) (sa_of t51 (C_wrong t51 (by unfold r32; omega) ?_))
      dsimp only [pushR]
      rw [if_pos (by omega)]
      refine wp_aload_n dX7_plan_143 rfl ?_
      refine wp_iconst dX7_plan_144 ?_
      refine wp_putv (fs' := mF dn km 0 a a ac mn om fw mo un ik) dX7_plan_145 (pX7_218 rfl) (gs_eq (gs_lt t51)) (Nat.le_of_ble_eq_true rfl) (fitF_int _) rfl ?_
      refine wp_aload_n dX7_plan_148 rfl ?_
      refine wp_getf dX7_plan_149 fX7_228 (gs_eq (gs_l (gs_lt t51))) rfl ?_
      refine wp_if_lt 163 dX7_plan_152 rfl (by first | assumption | (unfold r32; omega)) (fun c152 => ?_) (fun c152 => ?_)
      · refine wp_aload_n dX7_plan_163 rfl ?_
        refine wp_getf dX7_plan_164 fX7_25 (gs_eq (gs_l (gs_lt t51))) rfl ?_
        refine wp_iload_n dX7_plan_167 rfl ?_
        refine wp_iload_n dX7_plan_168 rfl ?_
        refine wp_isv dX7_plan_169 (gs_ne (by decide) (gs_ne (by decide) u57)) (by decide) (by omega) ?_
        refine wp_aload_n dX7_plan_170 rfl ?_
        refine wp_getf dX7_plan_171 fX7_19 (gs_ne (by decide) (gs_eq (gs_l (gs_lt t51)))) rfl ?_
        refine wp_iconst dX7_plan_174 ?_
        refine wp_aload_n dX7_plan_175 rfl ?_
        refine wp_getf dX7_plan_176 fX7_22 (gs_ne (by decide) (gs_eq (gs_l (gs_lt t51)))) rfl ?_
        refine wp_bipush dX7_plan_179 rfl ?_
        refine wp_iload_n dX7_plan_181 rfl ?_
        refine wp_imul dX7_plan_182 ?_
        refine wp_iconst dX7_plan_183 ?_
        refine wp_iload_n dX7_plan_184 rfl ?_
        refine wp_imul dX7_plan_185 ?_
        refine wp_copyi dX7_plan_186 aX7_86 (gs_ne (by decide) (gs_ne (by decide) (gs_ne (by decide) t55))) (gs_ne (by decide) (gs_ne (by decide) (gs_ne (by decide) u56))) (by decide) (by decide) (by omega) (by omega) (by omega) (by omega) (by omega) (Nat.le_of_ble_eq_true rfl) (Nat.le_of_ble_eq_true rfl) ?_
        refine wp_iload_n dX7_plan_189 rfl ?_
        exact wp_iret dX7_plan_190 rfl (by
            obtain ⟨e1, e2, e3, e4, e5⟩ := hE.resolve_right (fun q => by omega)
            have q := hQ ((((h1.set 51 (oO 7 (mF dn km ln a a ac mn om fw mo un ik))).set 51 (oO 7 (mF dn km 0 a a ac mn om fw mo un ik))).set 57 (oI 6 (ud PS c n))).set 56 (oI 90 (cpI D P 0 (15 * c) (3 * n)))) _ _ (MV.pl hM (gs_ne (by decide) (gs_ne (by decide) (gs_eq (gs_l (gs_lt t51))))) ⟨_, (gs_ne (by decide) (gs_ne (by decide) (gs_ne (by decide) (gs_ne (by decide) t55))))⟩ (gs_eq (gs_l (gs_l (gs_l (gs_lt u56))))) (gs_ne (by decide) (gs_eq (gs_l (gs_l (gs_lt u57))))) (fun j q51 q55 q56 q57 => by (repeat rw [List.getElem?_set_ne (by omega)]); exact t2 j q51 q55)) ⟨by simp only [List.length_set]; exact t1, fun j hj => by (repeat rw [List.getElem?_set_ne (by omega)]); exact t2 j (by omega) (by omega)⟩ ⟨fun _ => ⟨by rw [← e4], fun j hj => ?_, fun q hq => ?_⟩, fun z => absurd e1 z⟩
            · rw [hA, if_pos e1, ← e4] at q; exact q
            · have d := e5 j (by omega)
              unfold cpI
              rw [if_pos (by omega), if_pos (by omega), if_pos (by omega), show 0 + (15 * c + 3 * j - 15 * c) = 3 * j by omega, show 0 + (15 * c + 3 * j + 1 - 15 * c) = 3 * j + 1 by omega, show 0 + (15 * c + 3 * j + 2 - 15 * c) = 3 * j + 2 by omega]
              exact d
            · unfold cpI; rw [if_neg (by omega)])
      · refine wp_bipush dX7_plan_155 rfl ?_
        refine wp_aload_n dX7_plan_157 rfl ?_
        refine wp_getf dX7_plan_158 fX7_228 (gs_eq (gs_l (gs_lt t51))) rfl ?_
        refine wp_isub dX7_plan_161 ?_
        exact wp_iret dX7_plan_162 rfl (by
            have q := hQ ((h1.set 51 (oO 7 (mF dn km ln a a ac mn om fw mo un ik))).set 51 (oO 7 (mF dn km 0 a a ac mn om fw mo un ik))) _ _ (MV.pl hM (gs_eq (gs_l (gs_lt t51))) ⟨_, (gs_ne (by decide) (gs_ne (by decide) t55))⟩ (gs_ne (by decide) (gs_ne (by decide) u56)) (gs_ne (by decide) (gs_ne (by decide) u57)) (fun j q51 q55 q56 q57 => by (repeat rw [List.getElem?_set_ne (by omega)]); exact t2 j q51 q55)) ⟨by simp only [List.length_set]; exact t1, fun j hj => by (repeat rw [List.getElem?_set_ne (by omega)]); exact t2 j (by omega) (by omega)⟩ ⟨fun z => by omega, fun _ => ⟨rfl, rfl⟩⟩
            have e1 : r.1 = a := by omega
            rw [hA, if_neg (by omega), e1] at q
            exact q)
set_option maxHeartbeats 1000000 in
theorem C_rplan {c : Int} (hM : MV h g Kp dn km T ln P PS R Z I ik) (hT : ∀ j, 0 ≤ T j ∧ T j < 256) (hl : 0 ≤ ln ∧ ln ≤ 160) (rc : r32 c) (hQ0 : ¬ (0 ≤ c ∧ c ≤ 5) → Q (some (vI (-1))) h) (hQ : 0 ≤ c ∧ c < 6 → ∀ h' P' PS', MV h' g Kp dn km T 0 P' PS' R Z I ik → FRm h h' → RPLN c (plS T ln 5 0 0 K Fs S) P PS P' PS' → Q (some (vI (plA (plS T ln 5 0 0 K Fs S)))) h') : Cl X kX7_plan [vR 51, vI c] h Q := by
  refine cl_of rfl (Nat.le_of_ble_eq_true rfl) rfl ?_
  obtain ⟨⟨at_, ft, ac, mn, om, fw, mo, un, m51⟩, m52, m53, m54, ⟨D0, m55⟩, m56, m57, -, -, -, -, -, -, -, -, -, -, -, ⟨vf, m58, v0, v1, v2, v3, v4, v5, v6, v7⟩⟩ := id hM
  have hv : ∀ k : Nat, k < 8 → vf k = vb k := fun k hk => by
    rcases (by omega : k = 0 ∨ k = 1 ∨ k = 2 ∨ k = 3 ∨ k = 4 ∨ k = 5 ∨ k = 6 ∨ k = 7) with rfl | rfl | rfl | rfl | rfl | rfl | rfl | rfl
    · exact v0
    · exact v1
    · exact v2
    · exact v3
    · exact v4
    · exact v5
    · exact v6
    · exact v7
  have pb := plS_b (T := T) hl.2 5 0 0 K Fs S (by omega) (by omega) ⟨by omega, hl.1⟩
  refine wp_iload_n dX7_plan_0 rfl ?_
  refine wp_is1 dX7_plan_1 SX7_isClient lX7_155 (rq0 rfl rfl) (Nat.le_of_ble_eq_true rfl) (C_isClient (by first | assumption | exact hR _ | exact bI_r _ | (unfold r32; omega)) ?_)
  dsimp only [pushR]
  refine wp_bne 9 dX7_plan_4 rfl (fun c4 => ?_) (fun c4 => ?_)
  · refine wp_aload_n dX7_plan_9 rfl ?_
    refine wp_iconst dX7_plan_10 ?_
    refine wp_putv (fs' := mF dn km ln 0 ft ac mn om fw mo un ik) dX7_plan_11 (pX7_221 rfl) m51 (Nat.le_of_ble_eq_true rfl) (fitF_int _) rfl ?_
    refine wp_aload_n dX7_plan_14 rfl ?_
    refine wp_iconst dX7_plan_15 ?_
    refine wp_putv (fs' := mF dn km ln 0 (-1) ac mn om fw mo un ik) dX7_plan_16 (pX7_228 rfl) (gs_eq (gs_lt m51)) (Nat.le_of_ble_eq_true rfl) (fitF_int _) rfl ?_
    refine wp_iconst dX7_plan_19 ?_
    refine wp_istore_n (L' := [some (vR 51), some (vI c), some (vI 0), none]) dX7_plan_20 (by decide) rfl ?_
    refine wp_iconst dX7_plan_21 ?_
    refine wp_istore_n (L' := [some (vR 51), some (vI c), some (vI 0), some (vI 1)]) dX7_plan_22 (by decide) rfl ?_
    have tt : RPL h ((h.set 51 (oO 7 (mF dn km ln 0 ft ac mn om fw mo un ik))).set 51 (oO 7 (mF dn km ln 0 (-1) ac mn om fw mo un ik))) dn km ln 0 (-1) ac mn om fw mo un ik D0 := ⟨by simp only [List.length_set], fun j q51 q55 => by (repeat rw [List.getElem?_set_ne (by omega)]), (gs_eq (gs_l (gs_lt m51))), gs_ne (by decide) (gs_ne (by decide) m55)⟩
    refine lp_rp m54 m58 hv hT hl.2 5 0 0 D0 K Fs S _ (by omega) (by omega) (by omega) tt (fun j hj => by omega) (fun h1 D1 a1 f1 n1 t1 ra rf hE => ?_)
    exact lp_re2 hM (by omega) t1 ra rf hl.2 ⟨pb.1, by omega, pb.2.1.2⟩ hE hl.1 (fun h' P' PS' a b c => hQ (by omega) h' P' PS' a b c)
  · refine wp_iconst dX7_plan_7 ?_
    exact wp_iret dX7_plan_8 rfl (hQ0 (by omega))
theorem PRel.plan {K Fs S K' Fs' S' : Int → Int → Int} {sz sz' P' PS' : Int → Int} {c : Int} {r : Int × Int × (Int → Int) × (Int → Int) × (Int → Int)} (hR : PRel K Fs S sz P PS) (hc : 0 ≤ c ∧ c < 6) (h1 : PLN c r K Fs S sz K' Fs' S' sz') (h2 : RPLN c r P PS P' PS') (hn : 0 ≤ r.2.1 ∧ r.2.1 ≤ 5) (hw : ∀ j, 0 ≤ j ∧ j < r.2.1 → WFA (r.2.2.1 j) (r.2.2.2.1 j) (r.2.2.2.2 j)) : PRel K' Fs' S' sz' P' PS' := by
  intro d hd
  have R0 := hR d hd
  rcases Decidable.em (r.1 = -1) with e | e
  · have a := h1.2 e
    have b := h2.1 e
    rcases Decidable.em (d = c) with q | q
    · subst q
      rw [a.1, a.2.1, a.2.2.1, a.2.2.2, b.1, ud_eq]
      exact ⟨rfl, hn, fun j hj => ⟨hw j hj, b.2.1 j hj⟩⟩
    · have o := h1.1 d hd (fun _ => q)
      rw [o.1, o.2.1, o.2.2.1, o.2.2.2, b.1, ud_ne q]
      refine ⟨R0.1, R0.2.1, fun j hj => ?_⟩
      rw [b.2.2 (15 * d + 3 * j) (by omega), b.2.2 (15 * d + 3 * j + 1) (by omega), b.2.2 (15 * d + 3 * j + 2) (by omega)]
      exact R0.2.2 j hj
  · have o := h1.1 d hd (fun z => absurd z e)
    have b := h2.2 e
    rw [o.1, o.2.1, o.2.2.1, o.2.2.2, b.1, b.2]
    exact R0
end PR
