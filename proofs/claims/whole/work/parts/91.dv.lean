/-! what is due: rounds, due, next on the reference's face -/
theorem ir0 {g : Int → Int} {u : Int} : IR g u (60 * 0) (-1) := ⟨by omega, Or.inl ⟨rfl, fun n _ _ => by omega⟩⟩
theorem RdE_b {g : Int → Int} : ∀ (r : Nat) (u v : Int), -1 ≤ u ∧ u ≤ 90000000000 → RdE g r u v → -1 ≤ v ∧ v ≤ 90000000000 := by
  intro r
  induction r with
  | zero => intro u v h1 h2; have e : v = u := h2; omega
  | succ r ih =>
    intro u v h1 h2
    obtain ⟨z, k1, k2⟩ := h2
    rcases k2 with ⟨_, k3⟩ | ⟨_, k3⟩
    · omega
    · exact ih z v k1.1 k3
section DV
variable {X : XS} {h : AH} {Q : Option AV → AH → Prop} {g Kp : Int → Int} {dn km ln ik B : Int} {T P PS R Z I : Int → Int}
set_option maxHeartbeats 1000000 in
theorem lp_d7 {j at_ ft ac mn om fw mo un : Int} {b : Nat × Nat} (m51 : h[51]? = some (oO 7 (mF dn km ln at_ ft ac mn om fw mo un ik))) (m52 : h[52]? = some (oI 1014 g)) (hI : IM B g) (hBB : B ≤ 8000000) (rj : 0 ≤ j ∧ j < 240) : ∀ (r : Nat) (i u : Int) (y5 y7 y3 y0 y1 y2 : Option AV), i + r = j + 1 → 0 ≤ i → -1 ≤ u ∧ u ≤ 90000000000 → (∀ v, RdE g r u v → Q (some (vL v)) h) → Wp X kX7_dueAt 7 [some (vR 51), some (vI j), some (vL u), none, some (vI i), y5, none, y7, y3, y0, y1, y2, none] [] h b Q := by
  intro r
  induction r with
  | zero =>
    intro i u y5 y7 y3 y0 y1 y2 q1 q2 q3 hQ
    refine wp_iload dX7_dueAt_7 rfl ?_
    refine wp_iload_n dX7_dueAt_9 rfl ?_
    refine wp_icmp_gt 164 dX7_dueAt_10 rfl (by first | assumption | exact hR _ | exact bI_r _ | (unfold r32; omega)) (by first | assumption | exact hR _ | exact bI_r _ | (unfold r32; omega)) (fun c10 => ?_) (fun c10 => ?_)
    · refine wp_lload_n dX7_dueAt_164 rfl ?_
      exact wp_lret dX7_dueAt_165 rfl (hQ u rfl)
    · exfalso; omega
  | succ r ih =>
    intro i u y5 y7 y3 y0 y1 y2 q1 q2 q3 hQ
    refine wp_iload dX7_dueAt_7 rfl ?_
    refine wp_iload_n dX7_dueAt_9 rfl ?_
    refine wp_icmp_gt 164 dX7_dueAt_10 rfl (by first | assumption | exact hR _ | exact bI_r _ | (unfold r32; omega)) (by first | assumption | exact hR _ | exact bI_r _ | (unfold r32; omega)) (fun c10 => ?_) (fun c10 => ?_)
    · exfalso; omega
    · refine wp_ldc2 dX7_dueAt_13 cX7_201 ?_
      refine wp_lstore (L' := [some (vR 51), some (vI j), some (vL u), none, some (vI i), some (vL (-1)), none, y7, y3, y0, y1, y2, none]) dX7_dueAt_16 (by decide) rfl ?_
      refine wp_iconst dX7_dueAt_18 ?_
      refine wp_istore (L' := [some (vR 51), some (vI j), some (vL u), none, some (vI i), some (vL (-1)), none, some (vI 0), y3, y0, y1, y2, none]) dX7_dueAt_19 (by decide) rfl ?_
      refine lp_dt m51 m52 hI hBB q3 4 0 (-1) _ _ _ _ (by omega) (by omega) ir0 (fun z' y3 y0 y1 y2 q4 => ?_)
      have hz := q4.1
      refine wp_lload dX7_dueAt_144 rfl ?_
      refine wp_lconst (z := 0) dX7_dueAt_146 rfl ?_
      refine wp_lc_ge 155 dX7_dueAt_147 dX7_dueAt_148 rfl (by first | assumption | exact r64_of (hR _) | (unfold r64; omega)) ⟨by omega, by omega⟩ (fun c148 => ?_) (fun c148 => ?_)
      · refine wp_lload dX7_dueAt_155 rfl ?_
        refine wp_lstore_n (L' := [some (vR 51), some (vI j), some (vL z'), none, some (vI i), some (vL z'), none, some (vI 4), y3, y0, y1, y2, none]) dX7_dueAt_157 (by decide) rfl ?_
        refine wp_iinc (L' := [some (vR 51), some (vI j), some (vL z'), none, some (vI (i + 1)), some (vL z'), none, some (vI 4), y3, y0, y1, y2, none]) dX7_dueAt_158 rfl rfl ?_
        refine wp_goto 7 dX7_dueAt_161 rfl ?_
        exact ih (i + 1) z' _ _ _ _ _ _ (by omega) (by omega) q4.1 (fun v hv => hQ v ⟨z', q4, Or.inr ⟨by omega, hv⟩⟩)
      · refine wp_ldc2 dX7_dueAt_151 cX7_201 ?_
        exact wp_lret dX7_dueAt_154 rfl (hQ (-1) ⟨z', q4, Or.inl ⟨by omega, rfl⟩⟩)
theorem C_dueAt {j at_ ft ac mn om fw mo un : Int} (m51 : h[51]? = some (oO 7 (mF dn km ln at_ ft ac mn om fw mo un ik))) (m52 : h[52]? = some (oI 1014 g)) (hI : IM B g) (hBB : B ≤ 8000000) (rj : 0 ≤ j ∧ j < 240) (hQ : ∀ v, RdE g (j + 1).toNat (-1) v → Q (some (vL v)) h) : Cl X kX7_dueAt [vR 51, vI j] h Q := by
  refine cl_of rfl (Nat.le_of_ble_eq_true rfl) rfl ?_
  refine wp_ldc2 dX7_dueAt_0 cX7_201 ?_
  refine wp_lstore_n (L' := [some (vR 51), some (vI j), some (vL (-1)), none, none, none, none, none, none, none, none, none, none]) dX7_dueAt_3 (by decide) rfl ?_
  refine wp_iconst dX7_dueAt_4 ?_
  refine wp_istore (L' := [some (vR 51), some (vI j), some (vL (-1)), none, some (vI 0), none, none, none, none, none, none, none, none]) dX7_dueAt_5 (by decide) rfl ?_
  exact lp_d7 m51 m52 hI hBB rj (j + 1).toNat 0 (-1) _ _ _ _ _ _ (by omega) (by omega) (by omega) hQ
def rDueV (v i : Int) : Int := if v < 0 then -2 else if i = 0 then v / 10000 else if i = 1 then v / 1000 % 10 else v % 1000
set_option maxHeartbeats 1000000 in
theorem C_rdue {k i : Int} (hM : MV h g Kp dn km T ln P PS R Z I ik) (hI : IM B g) (hBB : B ≤ 8000000) (rk : r32 k) (ri : r32 i) (hQ0 : ¬ (0 ≤ k ∧ 0 ≤ i ∧ i ≤ 2) → Q (some (vI (-1))) h) (hQ1 : (0 ≤ k ∧ 0 ≤ i ∧ i ≤ 2) → 240 ≤ k → Q (some (vI (-2))) h) (hQ : (0 ≤ k ∧ 0 ≤ i ∧ i ≤ 2) → k < 240 → ∀ v, RdE g (k + 1).toNat (-1) v → Q (some (vI (rDueV v i))) h) : Cl X kX7_due [vR 51, vI k, vI i] h Q := by
  refine cl_of rfl (Nat.le_of_ble_eq_true rfl) rfl ?_
  obtain ⟨⟨at_, ft, ac, mn, om, fw, mo, un, m51⟩, m52, m53, m54, -, m56, m57, -, -, -, -, -, -, -, -, m67, m68, m69, -⟩ := id hM
  refine wp_iload_n dX7_due_0 rfl ?_
  refine wp_if_lt 16 dX7_due_1 rfl (by first | assumption | exact hR _ | exact bI_r _ | (unfold r32; omega)) (fun c1 => ?_) (fun c1 => ?_)
  · refine wp_iconst dX7_due_16 ?_
    exact wp_iret dX7_due_17 rfl (by first | exact hQ0 (by omega) | exact hQ1 (by omega) (by omega) | (have q := hQ (by omega) (by omega) v hv; unfold rDueV at q; (repeat' split at q) <;> first | (exfalso; omega) | exact q))
  · refine wp_iload_n dX7_due_4 rfl ?_
    refine wp_i2l dX7_due_5 (by first | assumption | exact hR _ | exact bI_r _ | (unfold r32; omega)) ?_
    refine wp_lconst (z := 0) dX7_due_6 rfl ?_
    refine wp_ldc2 dX7_due_7 cX7_100 ?_
    refine wp_is3 dX7_due_10 SX7_in lX7_94 (rq0 rfl rfl) (Nat.le_of_ble_eq_true rfl) (C_in (by first | assumption | exact r64_of (hR _) | (unfold r64; omega)) (by first | assumption | exact r64_of (hR _) | (unfold r64; omega)) (by first | assumption | exact r64_of (hR _) | (unfold r64; omega)) ?_)
    dsimp only [pushR]
    refine wp_bne 18 dX7_due_13 rfl (fun c13 => ?_) (fun c13 => ?_)
    · refine wp_iload_n dX7_due_18 rfl ?_
      refine wp_sipush dX7_due_19 rfl ?_
      refine wp_icmp_lt 28 dX7_due_22 rfl (by first | assumption | exact hR _ | exact bI_r _ | (unfold r32; omega)) ⟨by omega, by omega⟩ (fun c22 => ?_) (fun c22 => ?_)
      · refine wp_aload_n dX7_due_28 rfl ?_
        refine wp_iload_n dX7_due_29 rfl ?_
        refine wp_iv1 dX7_due_30 VX7_dueAt lX7_208 m51 (rq0 rfl rfl) (Nat.le_of_ble_eq_true rfl) (C_dueAt m51 m52 hI hBB (by omega) (fun v hv => ?_))
        dsimp only [pushR]
        have vb := RdE_b _ _ _ (by omega) hv
        refine wp_lstore_n (L' := [some (vR 51), some (vI k), some (vI i), some (vL v), none]) dX7_due_33 (by decide) rfl ?_
        refine wp_lload_n dX7_due_34 rfl ?_
        refine wp_lconst (z := 0) dX7_due_35 rfl ?_
        refine wp_lc_ge 43 dX7_due_36 dX7_due_37 rfl (by first | assumption | exact r64_of (hR _) | (unfold r64; omega)) ⟨by omega, by omega⟩ (fun c37 => ?_) (fun c37 => ?_)
        · refine wp_iload_n dX7_due_43 rfl ?_
          refine wp_if_ne 55 dX7_due_44 rfl (by first | assumption | exact hR _ | exact bI_r _ | (unfold r32; omega)) (fun c44 => ?_) (fun c44 => ?_)
          · refine wp_iload_n dX7_due_55 rfl ?_
            refine wp_iconst dX7_due_56 ?_
            refine wp_icmp_ne 72 dX7_due_57 rfl (by first | assumption | exact hR _ | exact bI_r _ | (unfold r32; omega)) ⟨by omega, by omega⟩ (fun c57 => ?_) (fun c57 => ?_)
            · refine wp_lload_n dX7_due_72 rfl ?_
              refine wp_ldc2 dX7_due_73 cX7_212 ?_
              refine wp_lremn dX7_due_76 (by first | assumption | exact r64_of (hR _) | (unfold r64; omega)) ⟨by omega, by omega⟩ (by omega) (by omega) ?_
              refine wp_l2i dX7_due_77 ?_
              exact wp_iret dX7_due_78 rfl (by first | exact hQ0 (by omega) | exact hQ1 (by omega) (by omega) | (have q := hQ (by omega) (by omega) v hv; unfold rDueV at q; (repeat' split at q) <;> first | (exfalso; omega) | exact q))
            · refine wp_lload_n dX7_due_60 rfl ?_
              refine wp_ldc2 dX7_due_61 cX7_212 ?_
              refine wp_ldivn dX7_due_64 (by first | assumption | exact r64_of (hR _) | (unfold r64; omega)) ⟨by omega, by omega⟩ (by omega) (by omega) ?_
              refine wp_ldc2 dX7_due_65 cX7_214 ?_
              refine wp_lremn dX7_due_68 (by first | assumption | exact r64_of (hR _) | (unfold r64; omega)) ⟨by omega, by omega⟩ (by omega) (by omega) ?_
              refine wp_goto 77 dX7_due_69 rfl ?_
              refine wp_l2i dX7_due_77 ?_
              exact wp_iret dX7_due_78 rfl (by first | exact hQ0 (by omega) | exact hQ1 (by omega) (by omega) | (have q := hQ (by omega) (by omega) v hv; unfold rDueV at q; (repeat' split at q) <;> first | (exfalso; omega) | exact q))
          · refine wp_lload_n dX7_due_47 rfl ?_
            refine wp_ldc2 dX7_due_48 cX7_206 ?_
            refine wp_ldivn dX7_due_51 (by first | assumption | exact r64_of (hR _) | (unfold r64; omega)) ⟨by omega, by omega⟩ (by omega) (by omega) ?_
            refine wp_goto 77 dX7_due_52 rfl ?_
            refine wp_l2i dX7_due_77 ?_
            exact wp_iret dX7_due_78 rfl (by first | exact hQ0 (by omega) | exact hQ1 (by omega) (by omega) | (have q := hQ (by omega) (by omega) v hv; unfold rDueV at q; (repeat' split at q) <;> first | (exfalso; omega) | exact q))
        · refine wp_bipush dX7_due_40 rfl ?_
          exact wp_iret dX7_due_42 rfl (by first | exact hQ0 (by omega) | exact hQ1 (by omega) (by omega) | (have q := hQ (by omega) (by omega) v hv; unfold rDueV at q; (repeat' split at q) <;> first | (exfalso; omega) | exact q))
      · refine wp_bipush dX7_due_25 rfl ?_
        exact wp_iret dX7_due_27 rfl (by first | exact hQ0 (by omega) | exact hQ1 (by omega) (by omega) | (have q := hQ (by omega) (by omega) v hv; unfold rDueV at q; (repeat' split at q) <;> first | (exfalso; omega) | exact q))
    · refine wp_iconst dX7_due_16 ?_
      exact wp_iret dX7_due_17 rfl (by first | exact hQ0 (by omega) | exact hQ1 (by omega) (by omega) | (have q := hQ (by omega) (by omega) v hv; unfold rDueV at q; (repeat' split at q) <;> first | (exfalso; omega) | exact q))
def rNx (g : Int → Int) (v : Int) : Int × (Int → Int) := if v < 0 then ((-2), g) else (v / 10000, ud g 0 (v / 10000))
set_option maxHeartbeats 1000000 in
theorem F_rnext (hM : MV h g Kp dn km T ln P PS R Z I ik) (hI : IM B g) (hBB : B ≤ 8000000) (hd : 0 ≤ dn ∧ dn ≤ 30) (hQ : ∀ v, RdE g 1 (-1) v → ∀ h' Kp' dn' km', MV h' (rNx g v).2 Kp' dn' km' T ln P PS R Z I ik → FRm h h' → TO (rNx g v).1 (rNx g v).2 Kp dn km Kp' dn' km' → Q (some (vI (rNx g v).1)) h') : Cl X kX7_next [vR 51] h Q := by
  refine cl_of rfl (Nat.le_of_ble_eq_true rfl) rfl ?_
  obtain ⟨⟨at_, ft, ac, mn, om, fw, mo, un, m51⟩, m52, m53, m54, -, m56, m57, -, -, -, -, -, -, -, -, m67, m68, m69, -⟩ := id hM
  refine wp_aload_n dX7_next_0 rfl ?_
  refine wp_iconst dX7_next_1 ?_
  refine wp_iv1 dX7_next_2 VX7_dueAt lX7_208 m51 (rq0 rfl rfl) (Nat.le_of_ble_eq_true rfl) (C_dueAt m51 m52 hI hBB (by omega) (fun v hv => ?_))
  dsimp only [pushR]
  have vb := RdE_b _ _ _ (by omega) hv
  refine wp_lstore_n (L' := [some (vR 51), some (vL v), none]) dX7_next_5 (by decide) rfl ?_
  refine wp_lload_n dX7_next_6 rfl ?_
  refine wp_lconst (z := 0) dX7_next_7 rfl ?_
  refine wp_lc_ge 15 dX7_next_8 dX7_next_9 rfl (by first | assumption | exact r64_of (hR _) | (unfold r64; omega)) ⟨by omega, by omega⟩ (fun c9 => ?_) (fun c9 => ?_)
  · refine wp_aload_n dX7_next_15 rfl ?_
    refine wp_getf dX7_next_16 fX7_9 m51 rfl ?_
    refine wp_iconst dX7_next_19 ?_
    refine wp_lload_n dX7_next_20 rfl ?_
    refine wp_ldc2 dX7_next_21 cX7_206 ?_
    refine wp_ldivn dX7_next_24 (by first | assumption | exact r64_of (hR _) | (unfold r64; omega)) ⟨by omega, by omega⟩ (by omega) (by omega) ?_
    refine wp_l2i dX7_next_25 ?_
    refine wp_isv dX7_next_26 m52 (by decide) (by omega) ?_
    refine wp_aload_n dX7_next_27 rfl ?_
    refine wp_aload_n dX7_next_28 rfl ?_
    refine wp_getf dX7_next_29 fX7_9 (gs_ne (by decide) m51) rfl ?_
    refine wp_iconst dX7_next_32 ?_
    refine wp_iav (v := v / 10000) dX7_next_33 (gs_eq (gs_lt m52)) (by decide) (by omega) (by rw [ud_eq] <;> rfl) ?_
    have e : rNx g v = (v / 10000, ud g 0 (v / 10000)) := if_neg (by omega)
    have q := hQ v hv
    rw [e] at q
    refine wp_iv1 dX7_next_34 VX7_told lX7_164 (MV.row hM).1.choose_spec.choose_spec.choose_spec.choose_spec.choose_spec.choose_spec.choose_spec.choose_spec (rq0 rfl rfl) (Nat.le_of_ble_eq_true rfl) (N_told (MV.row hM) (by unfold r32; omega) hd (fun h' Kp' dn' km' k1 k2 k3 => ?_))
    dsimp only [pushR]
    exact wp_iret dX7_next_37 rfl (q _ _ _ _ k1 ((FRm.st (by decide)).tr k2) k3)
  · refine wp_bipush dX7_next_12 rfl ?_
    exact wp_iret dX7_next_14 rfl (by have e : rNx g v = ((-2), g) := if_pos (by omega); have q := hQ v hv; rw [e] at q; exact q _ _ _ _ hM FRm.rf (Or.inl ⟨by unfold dNo; omega, rfl, rfl, rfl⟩))
end DV
