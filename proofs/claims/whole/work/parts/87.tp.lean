/-! feeding the tape, both faces -/
section TP
variable {X : XS} {h : AH} {Q : Option AV → AH → Prop} {sp kp : AV} {g Kp : Int → Int} {dn km ln ik B at_ : Int} {T P PS R Z I : Int → Int}
set_option maxHeartbeats 1000000 in
theorem C_append {c : Int} (h14 : h[14]? = some (oO 4 [vR 15, vI ln, vI at_])) (h15 : h[15]? = some (oI 160 T)) (hl : 0 ≤ ln ∧ ln ≤ 160) (hQ0 : ln = 160 → Q (some (vI 0)) h) (hQ : ln ≠ 160 → Q (some (vI 1)) ((h.set 15 (oI 160 (ud T ln c))).set 14 (oO 4 [vR 15, vI (ln + 1), vI at_]))) : Cl X kX4_append [vR 14, vI c] h Q := by
  refine cl_of rfl (Nat.le_of_ble_eq_true rfl) rfl ?_
  refine wp_aload_n dX4_append_0 rfl ?_
  refine wp_getf dX4_append_1 fX4_15 h14 rfl ?_
  refine wp_sipush dX4_append_4 rfl ?_
  refine wp_icmp_lt 12 dX4_append_7 rfl (by first | assumption | exact hR _ | exact bI_r _ | (unfold r32; omega)) ⟨by omega, by omega⟩ (fun c7 => ?_) (fun c7 => ?_)
  · refine wp_aload_n dX4_append_12 rfl ?_
    refine wp_getf dX4_append_13 fX4_9 h14 rfl ?_
    refine wp_aload_n dX4_append_16 rfl ?_
    refine wp_getf dX4_append_17 fX4_15 h14 rfl ?_
    refine wp_iload_n dX4_append_20 rfl ?_
    refine wp_isv dX4_append_21 h15 (by decide) (by omega) ?_
    refine wp_aload_n dX4_append_22 rfl ?_
    refine wp_dup dX4_append_23 rfl ?_
    refine wp_getf dX4_append_24 fX4_15 (gs_ne (by decide) h14) rfl ?_
    refine wp_iconst dX4_append_27 ?_
    refine wp_iadd dX4_append_28 ?_
    refine wp_putv (fs' := [vR 15, vI (ln + 1), vI at_]) dX4_append_29 (pX4_15 rfl) (gs_ne (by decide) h14) (Nat.le_of_ble_eq_true rfl) (fitF_int _) rfl ?_
    refine wp_iconst dX4_append_32 ?_
    exact wp_zret dX4_append_33 rfl (Or.inr rfl) (hQ (by omega))
  · refine wp_iconst dX4_append_10 ?_
    exact wp_zret dX4_append_11 rfl (Or.inl rfl) (hQ0 (by omega))
set_option maxHeartbeats 1000000 in
theorem C_cfeed {c : Int} (h0 : h[0]? = some (oO 6 (cF sp kp))) (h14 : h[14]? = some (oO 4 [vR 15, vI ln, vI at_])) (h15 : h[15]? = some (oI 160 T)) (hl : 0 ≤ ln ∧ ln ≤ 160) (rc : r32 c) (hQ0 : ¬ (0 ≤ c ∧ c < 256) → Q (some (vI (-1))) h) (hQ1 : 0 ≤ c ∧ c < 256 → ln = 160 → Q (some (vI (-3))) h) (hQ : 0 ≤ c ∧ c < 256 → ln ≠ 160 → Q (some (vI (ln + 1))) ((h.set 15 (oI 160 (ud T ln c))).set 14 (oO 4 [vR 15, vI (ln + 1), vI at_]))) : Cl X kX6_feed [vR 0, vI c] h Q := by
  refine cl_of rfl (Nat.le_of_ble_eq_true rfl) rfl ?_
  refine wp_iload_n dX6_feed_0 rfl ?_
  refine wp_sipush dX6_feed_1 rfl ?_
  refine wp_is2 dX6_feed_4 SX6_below lX6_81 (rq0 rfl rfl) (Nat.le_of_ble_eq_true rfl) (C_below (by first | assumption | exact hR _ | exact bI_r _ | (unfold r32; omega)) (by first | assumption | exact hR _ | exact bI_r _ | (unfold r32; omega)) ?_)
  dsimp only [pushR]
  refine wp_bne 12 dX6_feed_7 rfl (fun c7 => ?_) (fun c7 => ?_)
  · refine wp_aload_n dX6_feed_12 rfl ?_
    refine wp_getf dX6_feed_13 fX6_48 h0 rfl ?_
    refine wp_iload_n dX6_feed_16 rfl ?_
    refine wp_iv1 dX6_feed_17 VX4_append lX6_244 h14 (rq0 rfl rfl) (Nat.le_of_ble_eq_true rfl) (C_append h14 h15 hl (fun cc => ?_) (fun cc => ?_))
    · dsimp only [pushR]
      refine wp_if_eq 33 dX6_feed_20 rfl ⟨by omega, by omega⟩ (fun c20 => ?_) (fun c20 => absurd c20 (by omega))
      refine wp_bipush dX6_feed_33 rfl ?_
      exact wp_iret dX6_feed_35 rfl (by first | exact hQ0 (by omega) | exact hQ1 (by omega) cc)
    · dsimp only [pushR]
      refine wp_if_eq 33 dX6_feed_20 rfl ⟨by omega, by omega⟩ (fun c20 => absurd c20 (by omega)) (fun c20 => ?_)
      refine wp_aload_n dX6_feed_23 rfl ?_
      refine wp_getf dX6_feed_24 fX6_48 (gs_ne (by decide) (gs_ne (by decide) h0)) rfl ?_
      refine wp_getf dX6_feed_27 fX6_248 (gs_eq (gs_l (gs_lt h14))) rfl ?_
      refine wp_goto 35 dX6_feed_30 rfl ?_
      exact wp_iret dX6_feed_35 rfl (hQ (by omega) cc)
  · refine wp_iconst dX6_feed_10 ?_
    exact wp_iret dX6_feed_11 rfl (by first | exact hQ0 (by omega) | exact hQ1 (by omega) cc)
set_option maxHeartbeats 1000000 in
theorem C_rfeed {c : Int} (hM : MV h g Kp dn km T ln P PS R Z I ik) (hl : 0 ≤ ln ∧ ln ≤ 160) (rc : r32 c) (hQ0 : ¬ (0 ≤ c ∧ c < 256) → Q (some (vI (-1))) h) (hQ1 : 0 ≤ c ∧ c < 256 → ln = 160 → Q (some (vI (-3))) h) (hQ : 0 ≤ c ∧ c < 256 → ln ≠ 160 → ∀ h', MV h' g Kp dn km (ud T ln c) (ln + 1) P PS R Z I ik → FRm h h' → Q (some (vI (ln + 1))) h') : Cl X kX7_feed [vR 51, vI c] h Q := by
  refine cl_of rfl (Nat.le_of_ble_eq_true rfl) rfl ?_
  obtain ⟨⟨at_, ft, ac, mn, om, fw, mo, un, m51⟩, m52, m53, m54, -, m56, m57, -, -, -, -, -, -, -, -, m67, m68, m69, -⟩ := id hM
  refine wp_iload_n dX7_feed_0 rfl ?_
  refine wp_i2l dX7_feed_1 (by first | assumption | exact hR _ | exact bI_r _ | (unfold r32; omega)) ?_
  refine wp_lconst (z := 0) dX7_feed_2 rfl ?_
  refine wp_ldc2 dX7_feed_3 cX7_216 ?_
  refine wp_is3 dX7_feed_6 SX7_in lX7_94 (rq0 rfl rfl) (Nat.le_of_ble_eq_true rfl) (C_in (by first | assumption | exact r64_of (hR _) | (unfold r64 r32 at *; omega)) (by first | assumption | exact r64_of (hR _) | (unfold r64 r32 at *; omega)) (by first | assumption | exact r64_of (hR _) | (unfold r64 r32 at *; omega)) ?_)
  dsimp only [pushR]
  refine wp_bne 14 dX7_feed_9 rfl (fun c9 => ?_) (fun c9 => ?_)
  · refine wp_aload_n dX7_feed_14 rfl ?_
    refine wp_getf dX7_feed_15 fX7_218 m51 rfl ?_
    refine wp_sipush dX7_feed_18 rfl ?_
    refine wp_icmp_ne 27 dX7_feed_21 rfl (by first | assumption | exact hR _ | exact bI_r _ | (unfold r32; omega)) ⟨by omega, by omega⟩ (fun c21 => ?_) (fun c21 => ?_)
    · refine wp_aload_n dX7_feed_27 rfl ?_
      refine wp_getf dX7_feed_28 fX7_16 m51 rfl ?_
      refine wp_aload_n dX7_feed_31 rfl ?_
      refine wp_getf dX7_feed_32 fX7_218 m51 rfl ?_
      refine wp_iload_n dX7_feed_35 rfl ?_
      refine wp_isv dX7_feed_36 m54 (by decide) (by omega) ?_
      refine wp_aload_n dX7_feed_37 rfl ?_
      refine wp_dup dX7_feed_38 rfl ?_
      refine wp_getf dX7_feed_39 fX7_218 (gs_ne (by decide) m51) rfl ?_
      refine wp_iconst dX7_feed_42 ?_
      refine wp_iadd dX7_feed_43 ?_
      refine wp_putv (fs' := mF dn km (ln + 1) at_ ft ac mn om fw mo un ik) dX7_feed_44 (pX7_218 rfl) (gs_ne (by decide) m51) (Nat.le_of_ble_eq_true rfl) (fitF_int _) rfl ?_
      refine wp_aload_n dX7_feed_47 rfl ?_
      refine wp_getf dX7_feed_48 fX7_218 (gs_eq (gs_l (gs_lt m51))) rfl ?_
      exact wp_iret dX7_feed_51 rfl (hQ (by omega) (by omega) _ (MV.ch hM (gs_eq (gs_l (gs_lt m51))) (gs_ne (by decide) (gs_ne (by decide) m52)) (gs_ne (by decide) (gs_ne (by decide) m53)) (gs_ne (by decide) (gs_eq (gs_lt m54))) (gs_ne (by decide) (gs_ne (by decide) m69)) (fun i a b => (List.getElem?_set_ne (by omega)).trans (List.getElem?_set_ne (by omega)))) ((FRm.st (by decide)).tr (FRm.st (by decide))))
    · refine wp_bipush dX7_feed_24 rfl ?_
      exact wp_iret dX7_feed_26 rfl (by first | exact hQ0 (by omega) | exact hQ1 (by omega) (by omega))
  · refine wp_iconst dX7_feed_12 ?_
    exact wp_iret dX7_feed_13 rfl (by first | exact hQ0 (by omega) | exact hQ1 (by omega) (by omega))
/-! the class' plans -/
def plF (pl : Int → Nat) : Int → Option Nat := fun i => if 0 ≤ i ∧ i < 6 then some (pl i) else none
/-- six plans and a spare one, each with three rows of five -/
def PL (h : AH) (pl : Int → Nat) (K F S : Int → Int → Int) (sz : Int → Int) : Prop := h[16]? = some (oR 0 6 (plF pl)) ∧ (∀ i, 0 ≤ i ∧ i < 7 → (17 ≤ pl i ∧ pl i < 42) ∧ h[pl i]? = some (oO 2 [vR (pl i + 1), vR (pl i + 2), vR (pl i + 3), vI (sz i)]) ∧ h[pl i + 1]? = some (oI 5 (K i)) ∧ h[pl i + 2]? = some (oI 5 (F i)) ∧ h[pl i + 3]? = some (oI 5 (S i))) ∧ ∀ i j, 0 ≤ i ∧ i < 7 → 0 ≤ j ∧ j < 7 → i ≠ j → pl i + 3 < pl j ∨ pl j + 3 < pl i
theorem plF_at {pl : Int → Nat} {i : Int} (h : 0 ≤ i ∧ i < 6) : plF pl i = some (pl i) := if_pos h
def wPt (sz : Int → Int) : Nat → Int → Int → Int
  | 0, _, n => n
  | m + 1, k, n => if 0 < sz k then wPt sz m (k + 1) (n + 1) else wPt sz m (k + 1) n
variable {pl : Int → Nat} {K Fs S : Int → Int → Int} {sz : Int → Int}
end TP
