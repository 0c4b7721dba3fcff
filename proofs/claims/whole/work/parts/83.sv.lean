/-! saving to shelves, both faces -/
/-- present entries' values, one behind another from place z on -/
def svL (x : Int) (y v : Int → Int) : Nat → Int → Int → (Int → Int) → (Int → Int)
  | 0, _, _, r => r
  | m + 1, k, z, r => if x < y k then svL x y v m (k + 1) (z + 1) (ud r z (v k)) else svL x y v m (k + 1) z r
def cnL (x : Int) (y : Int → Int) : Nat → Int → Int
  | 0, _ => 0
  | m + 1, k => if x < y k then 1 + cnL x y m (k + 1) else cnL x y m (k + 1)
theorem cnL_b (x : Int) (y : Int → Int) : ∀ (m : Nat) (k : Int), 0 ≤ cnL x y m k ∧ cnL x y m k ≤ m := by
  intro m
  induction m with
  | zero => intro k; exact ⟨Int.le_refl 0, Int.le_refl 0⟩
  | succ m ih => intro k; have := ih (k + 1); unfold cnL; split <;> omega
theorem entL_cn (g : Int → Int) (a : Int) : ∀ (m : Nat) (k n : Int), entL' g a m k n = n + cnL (g 0) (fun j => g (eA a j)) m k := by
  intro m
  induction m with
  | zero => intro k n; exact (Int.add_zero n).symm
  | succ m ih =>
    intro k n
    unfold entL' cnL
    split
    · rw [ih, Int.add_assoc]
    · rw [ih, Int.add_zero]
theorem cnL_eq {x x' : Int} {y y' : Int → Int} : ∀ (m : Nat) (k : Int), k + m = 10 → 0 ≤ k → (∀ j, 0 ≤ j → j < 10 → (x < y j ↔ x' < y' j)) → cnL x y m k = cnL x' y' m k := by
  intro m
  induction m with
  | zero => intro k _ _ _; rfl
  | succ m ih =>
    intro k h1 h2 h3
    have q := h3 k h2 (by omega)
    unfold cnL
    rw [ih (k + 1) (by omega) (by omega) h3]
    split
    · rw [if_pos (q.mp (by assumption))]
    · rw [if_neg (fun c => absurd (q.mpr c) (by assumption))]
/-- the shelves alike -/
def SHR (Rc : Int → Int → Int) (R Zc Z : Int → Int) : Prop := (∀ d j, 0 ≤ d ∧ d < 4 → 0 ≤ j ∧ j < Z d → Rc d j = R (40 * d + j)) ∧ (∀ d, 0 ≤ d ∧ d < 4 → Zc d = Z d)
theorem svL_eq {x x' d N : Int} {y y' v v' : Int → Int} (hN : N ≤ 40) : ∀ (m : Nat) (k z : Int) (r R : Int → Int), k + m = 10 → 0 ≤ k → 0 ≤ z → z + cnL x y m k ≤ N → (∀ j, 0 ≤ j → j < 10 → (x < y j ↔ x' < y' j) ∧ v j = v' j) → (∀ j, 0 ≤ j ∧ j < N → r j = R (40 * d + j)) → (∀ j, 0 ≤ j ∧ j < N → svL x y v m k z r j = svL x' y' v' m k (40 * d + z) R (40 * d + j)) ∧ ∀ j, j < 40 * d ∨ 40 * d + 40 ≤ j → svL x' y' v' m k (40 * d + z) R j = R j := by
  intro m
  induction m with
  | zero => intro k z r R h1 h2 h3 h4 h5 h6; exact ⟨h6, fun _ _ => rfl⟩
  | succ m ih =>
    intro k z r R h1 h2 h3 h4 h5 h6
    have q := h5 k h2 (by omega)
    have cb := cnL_b x y m (k + 1)
    unfold svL
    unfold cnL at h4
    rcases Decidable.em (x < y k) with c | c
    · rw [if_pos c] at h4
      rw [if_pos c, if_pos (q.1.mp c), Int.add_assoc]
      have w := ih (k + 1) (z + 1) (ud r z (v k)) (ud R (40 * d + z) (v' k)) (by omega) (by omega) (by omega) (by omega) h5 (fun j hj => ?_)
      · refine ⟨w.1, fun j hj => ?_⟩
        rw [w.2 j hj, ud_ne (by omega)]
      · rcases Decidable.em (j = z) with e | e
        · rw [e, ud_eq, ud_eq, q.2]
        · rw [ud_ne e, ud_ne (by omega)]; exact h6 j hj
    · rw [if_neg c] at h4
      rw [if_neg c, if_neg (fun e => c (q.1.mpr e))]
      exact ih (k + 1) z r R (by omega) (by omega) h3 h4 h5 h6
section SV
variable {X : XS} {h : AH} {Q : Option AV → AH → Prop} {sp kp : AV} {Rc : Int → Int → Int} {Zc : Int → Int} {f g Kp : Int → Int} {dn km ln ik B : Int} {T P PS R Z I : Int → Int} {fs : List AV}
theorem C_savedLong {a k : Int} (h0 : h[0]? = some (oO 6 (cF sp kp))) (h1 : h[1]? = some (oO 5 fs)) (h1f : fs[0]? = some (vR 2)) (h2 : h[2]? = some (oI 1060 f)) (hI : IW B f) (hBB : B ≤ 8000000) (ha : 0 ≤ a ∧ a < 6) (hk : 0 ≤ k ∧ k < 10) (hQ : Q (some (vL (f (sA a k + 1) * 1000000 + k * 1000 + f (sA a k + 0)))) h) : Cl X kX6_savedLong [vR 0, vI a, vI k] h Q := by
  refine cl_of rfl (Nat.le_of_ble_eq_true rfl) rfl ?_
  have hR := hI.r (by omega)
  refine wp_aload_n dX6_savedLong_0 rfl ?_
  refine wp_getf dX6_savedLong_1 fX6_10 h0 rfl ?_
  refine wp_iload_n dX6_savedLong_4 rfl ?_
  refine wp_iload_n dX6_savedLong_5 rfl ?_
  refine wp_iconst dX6_savedLong_6 ?_
  refine wp_iv3 dX6_savedLong_7 VX5_entryPart lX6_148 h1 (rq0 rfl rfl) (Nat.le_of_ble_eq_true rfl) (sa_of h2 (C_wentryPart (sa_mk (by decide) h1 h1f h2) ha (by omega) (by omega) rfl ?_))
  dsimp only [pushR]
  rw [set_same h2]
  refine wp_i2l dX6_savedLong_10 (by first | assumption | exact hR _ | exact bI_r _ | (unfold r32; omega)) ?_
  refine wp_lstore_n (L' := [some (vR 0), some (vI a), some (vI k), some (vL (f (sA a k + 1))), none]) dX6_savedLong_11 (by decide) rfl ?_
  refine wp_lload_n dX6_savedLong_12 rfl ?_
  refine wp_ldc2 dX6_savedLong_13 cX6_326 ?_
  refine wp_lmul dX6_savedLong_16 ?_
  refine wp_iload_n dX6_savedLong_17 rfl ?_
  refine wp_sipush dX6_savedLong_18 rfl ?_
  refine wp_imul dX6_savedLong_21 ?_
  refine wp_i2l dX6_savedLong_22 (by first | assumption | exact hR _ | exact bI_r _ | (unfold r32; omega)) ?_
  refine wp_ladd dX6_savedLong_23 ?_
  refine wp_aload_n dX6_savedLong_24 rfl ?_
  refine wp_getf dX6_savedLong_25 fX6_10 h0 rfl ?_
  refine wp_iload_n dX6_savedLong_28 rfl ?_
  refine wp_iload_n dX6_savedLong_29 rfl ?_
  refine wp_iconst dX6_savedLong_30 ?_
  refine wp_iv3 dX6_savedLong_31 VX5_entryPart lX6_148 h1 (rq0 rfl rfl) (Nat.le_of_ble_eq_true rfl) (sa_of h2 (C_wentryPart (sa_mk (by decide) h1 h1f h2) ha (by omega) (by omega) rfl ?_))
  dsimp only [pushR]
  rw [set_same h2]
  refine wp_i2l dX6_savedLong_34 (by first | assumption | exact hR _ | exact bI_r _ | (unfold r32; omega)) ?_
  refine wp_ladd dX6_savedLong_35 ?_
  exact wp_lret dX6_savedLong_36 rfl hQ
set_option maxHeartbeats 1000000 in
theorem lp_csave {d i a n : Int} {b : Nat × Nat} (hd : 0 ≤ d ∧ d < 4) (ha : 0 ≤ a ∧ a < 6) (hI : IW B f) (hBB : B ≤ 8000000) (h1f : fs[0]? = some (vR 2)) : ∀ (m : Nat) (k z : Int) (r : Int → Int), k + m = 10 → 0 ≤ k → 0 ≤ z → z + cnL (f 0) (fun j => f (sA a j + 5)) m k ≤ 40 → h[0]? = some (oO 6 (cF sp kp)) → h[1]? = some (oO 5 fs) → h[2]? = some (oI 1060 f) → h[45]? = some (oR 2 4 shF) → h[46 + d.toNat]? = some (oL 40 r) → Q (some (vI n)) (h.set (46 + d.toNat) (oL 40 (svL (f 0) (fun j => f (sA a j + 5)) (fun j => f (sA a j + 1) * 1000000 + j * 1000 + f (sA a j + 0)) m k z r))) → Wp X kX6_save 70 [some (vR 0), some (vI d), some (vI i), some (vI a), some (vI n), some (vI z), some (vI k)] [] h b Q := by
  have hR := hI.r (by omega)
  intro m
  induction m generalizing h with
  | zero =>
    intro k z r q1 q2 q3 q4 h0 h1 h2 h45 hd6 hQ
    refine wp_iload dX6_save_70 rfl ?_
    refine wp_bipush dX6_save_72 rfl ?_
    refine wp_icmp_ge 115 dX6_save_74 rfl (by first | assumption | exact hR _ | exact bI_r _ | (unfold r32; omega)) ⟨by omega, by omega⟩ (fun c74 => ?_) (fun c74 => ?_)
    · refine wp_iload dX6_save_115 rfl ?_
      exact wp_iret dX6_save_117 rfl (by unfold svL at hQ; rw [set_same hd6] at hQ; exact hQ)
    · exfalso; omega
  | succ m ih =>
    intro k z r q1 q2 q3 q4 h0 h1 h2 h45 hd6 hQ
    have cb := cnL_b (f 0) (fun j => f (sA a j + 5)) m (k + 1)
    unfold svL at hQ
    unfold cnL at q4
    refine wp_iload dX6_save_70 rfl ?_
    refine wp_bipush dX6_save_72 rfl ?_
    refine wp_icmp_ge 115 dX6_save_74 rfl (by first | assumption | exact hR _ | exact bI_r _ | (unfold r32; omega)) ⟨by omega, by omega⟩ (fun c74 => ?_) (fun c74 => ?_)
    · refine wp_iload dX6_save_115 rfl ?_
      exact wp_iret dX6_save_117 rfl (False.elim (by omega))
    · refine wp_aload_n dX6_save_77 rfl ?_
      refine wp_getf dX6_save_78 fX6_10 h0 rfl ?_
      refine wp_iload_n dX6_save_81 rfl ?_
      refine wp_iload dX6_save_82 rfl ?_
      refine wp_iv2 dX6_save_84 VX5_hasEntry lX6_145 h1 (rq0 rfl rfl) (Nat.le_of_ble_eq_true rfl) (sa_of h2 (C_whasEntry (sa_mk (by decide) h1 h1f h2) ha (by omega) rfl rfl (hR _) (hR _) ?_))
      dsimp only [pushR]
      rw [set_same h2]
      refine wp_beq 109 dX6_save_87 rfl (fun c87 => ?_) (fun c87 => ?_)
      · refine wp_iinc (L' := [some (vR 0), some (vI d), some (vI i), some (vI a), some (vI n), some (vI z), some (vI (k + 1))]) dX6_save_109 rfl rfl ?_
        refine wp_goto 70 dX6_save_112 rfl ?_
        rw [if_neg (by assumption)] at hQ q4
        exact ih (k + 1) z _ (by omega) (by omega) (by omega) (by omega) h0 h1 h2 h45 hd6 hQ
      · refine wp_aload_n dX6_save_90 rfl ?_
        refine wp_getf dX6_save_91 fX6_65 h0 rfl ?_
        refine wp_iload_n dX6_save_94 rfl ?_
        refine wp_aav (j' := (46 + d.toNat)) dX6_save_95 h45 (by decide) (by omega) (shF_at (by omega)) ?_
        refine wp_iload dX6_save_96 rfl ?_
        refine wp_aload_n dX6_save_98 rfl ?_
        refine wp_iload_n dX6_save_99 rfl ?_
        refine wp_iload dX6_save_100 rfl ?_
        refine wp_iv2 dX6_save_102 VX6_savedLong lX6_287 h0 (rq0 rfl rfl) (Nat.le_of_ble_eq_true rfl) (C_savedLong h0 h1 h1f h2 hI hBB ha (by omega) ?_)
        dsimp only [pushR]
        refine wp_lsv dX6_save_105 hd6 (by decide) (by omega) ?_
        refine wp_iinc (L' := [some (vR 0), some (vI d), some (vI i), some (vI a), some (vI n), some (vI (z + 1)), some (vI k)]) dX6_save_106 rfl rfl ?_
        refine wp_iinc (L' := [some (vR 0), some (vI d), some (vI i), some (vI a), some (vI n), some (vI (z + 1)), some (vI (k + 1))]) dX6_save_109 rfl rfl ?_
        refine wp_goto 70 dX6_save_112 rfl ?_
        rw [if_pos (by assumption)] at hQ q4
        exact ih (k + 1) (z + 1) _ (by omega) (by omega) (by omega) (by omega) (gs_ne (by omega) h0) (gs_ne (by omega) h1) (gs_ne (by omega) h2) (gs_ne (by omega) h45) (gs_eq (gs_lt hd6)) (by rw [List.set_set]; exact hQ)
set_option maxHeartbeats 1000000 in
theorem C_csave {d i a : Int} (h0 : h[0]? = some (oO 6 (cF sp kp))) (h1 : h[1]? = some (oO 5 fs)) (h1f : fs[0]? = some (vR 2)) (h2 : h[2]? = some (oI 1060 f)) (h45 : h[45]? = some (oR 2 4 shF)) (hS : SHc h Rc Zc) (rd : r32 d) (ri : r32 i) (ra : r32 a) (hZ : ∀ j, r32 (Zc j)) (hZ2 : ∀ j, Zc j ≤ 40) (hI : IW B f) (hBB : B ≤ 8000000) (hc : 0 ≤ a ∧ a < 6 → bc10 (wEk f a) = cnL (f 0) (fun j => f (sA a j + 5)) 10 0) (hQ0 : ¬ ((0 ≤ d ∧ d < 4) ∧ 0 ≤ a ∧ a < 6) → Q (some (vI (-1))) h) (hQ1 : (0 ≤ d ∧ d < 4) ∧ 0 ≤ a ∧ a < 6 → Zc d < 0 → Q (some (vI (-11))) h) (hQ2 : (0 ≤ d ∧ d < 4) ∧ 0 ≤ a ∧ a < 6 → ¬ Zc d < 0 → ¬ (0 ≤ i ∧ i ≤ Zc d - bc10 (wEk f a)) → Q (some (vI (-13))) h)
    (hQ : (0 ≤ d ∧ d < 4) ∧ 0 ≤ a ∧ a < 6 → ¬ Zc d < 0 → 0 ≤ i ∧ i ≤ Zc d - bc10 (wEk f a) → Q (some (vI (bc10 (wEk f a)))) (h.set (46 + d.toNat) (oL 40 (svL (f 0) (fun j => f (sA a j + 5)) (fun j => f (sA a j + 1) * 1000000 + j * 1000 + f (sA a j + 0)) 10 0 i (Rc d))))) : Cl X kX6_save [vR 0, vI d, vI i, vI a] h Q := by
  refine cl_of rfl (Nat.le_of_ble_eq_true rfl) rfl ?_
  have hR := hI.r (by omega)
  have hz := hZ2 d
  have hz1 := hZ d
  have hbc := bc10_b (wEk_b f a)
  have h50 := hS.2.2
  refine wp_iload_n dX6_save_0 rfl ?_
  refine wp_iconst dX6_save_1 ?_
  refine wp_is2 dX6_save_2 SX6_below lX6_81 (rq0 rfl rfl) (Nat.le_of_ble_eq_true rfl) (C_below (by first | assumption | exact hR _ | exact bI_r _ | (unfold r32; omega)) (by first | assumption | exact hR _ | exact bI_r _ | (unfold r32; omega)) ?_)
  dsimp only [pushR]
  refine wp_beq 17 dX6_save_5 rfl (fun c5 => ?_) (fun c5 => ?_)
  · refine wp_iconst dX6_save_17 ?_
    exact wp_iret dX6_save_18 rfl (by first | exact hQ0 (by omega) | exact hQ1 (by omega) (by omega) | exact hQ2 (by omega) (by omega) (by omega))
  · refine wp_iload_n dX6_save_8 rfl ?_
    refine wp_bipush dX6_save_9 rfl ?_
    refine wp_is2 dX6_save_11 SX6_below lX6_81 (rq0 rfl rfl) (Nat.le_of_ble_eq_true rfl) (C_below (by first | assumption | exact hR _ | exact bI_r _ | (unfold r32; omega)) (by first | assumption | exact hR _ | exact bI_r _ | (unfold r32; omega)) ?_)
    dsimp only [pushR]
    refine wp_bne 19 dX6_save_14 rfl (fun c14 => ?_) (fun c14 => ?_)
    · refine wp_aload_n dX6_save_19 rfl ?_
      refine wp_getf dX6_save_20 fX6_68 h0 rfl ?_
      refine wp_iload_n dX6_save_23 rfl ?_
      refine wp_iav (v := Zc d) dX6_save_24 h50 (by decide) (by omega) rfl ?_
      refine wp_if_ge 31 dX6_save_25 rfl (by first | assumption | exact hR _ | exact bI_r _ | (unfold r32; omega)) (fun c25 => ?_) (fun c25 => ?_)
      · refine wp_aload_n dX6_save_31 rfl ?_
        refine wp_getf dX6_save_32 fX6_10 h0 rfl ?_
        refine wp_iload_n dX6_save_35 rfl ?_
        refine wp_iv1 dX6_save_36 VX5_entryKeys lX6_279 h1 (rq0 rfl rfl) (Nat.le_of_ble_eq_true rfl) (sa_of h2 (C_wentryKeys (sa_mk (by decide) h1 h1f h2) hI (by omega) (by omega) ?_))
        dsimp only [pushR]
        rw [set_same h2]
        refine wp_is1 dX6_save_39 SJ6_bitCount_0f7a4 lX6_282 (rq0 rfl rfl) (Nat.le_of_ble_eq_true rfl) (C_bitCount (wEk_b f a) ?_)
        dsimp only [pushR]
        refine wp_istore (L' := [some (vR 0), some (vI d), some (vI i), some (vI a), some (vI (bc10 (wEk f a))), none, none]) dX6_save_42 (by decide) rfl ?_
        refine wp_iload_n dX6_save_44 rfl ?_
        refine wp_if_lt 61 dX6_save_45 rfl (by first | assumption | exact hR _ | exact bI_r _ | (unfold r32; omega)) (fun c45 => ?_) (fun c45 => ?_)
        · refine wp_bipush dX6_save_61 rfl ?_
          exact wp_iret dX6_save_63 rfl (by first | exact hQ0 (by omega) | exact hQ1 (by omega) (by omega) | exact hQ2 (by omega) (by omega) (by omega))
        · refine wp_iload_n dX6_save_48 rfl ?_
          refine wp_aload_n dX6_save_49 rfl ?_
          refine wp_getf dX6_save_50 fX6_68 h0 rfl ?_
          refine wp_iload_n dX6_save_53 rfl ?_
          refine wp_iav (v := Zc d) dX6_save_54 h50 (by decide) (by omega) rfl ?_
          refine wp_iload dX6_save_55 rfl ?_
          refine wp_isub dX6_save_57 ?_
          refine wp_icmp_le 64 dX6_save_58 rfl (by first | assumption | exact hR _ | exact bI_r _ | (unfold r32; omega)) (by first | assumption | exact hR _ | exact bI_r _ | (unfold r32; omega)) (fun c58 => ?_) (fun c58 => ?_)
          · refine wp_iload_n dX6_save_64 rfl ?_
            refine wp_istore (L' := [some (vR 0), some (vI d), some (vI i), some (vI a), some (vI (bc10 (wEk f a))), some (vI i), none]) dX6_save_65 (by decide) rfl ?_
            refine wp_iconst dX6_save_67 ?_
            refine wp_istore (L' := [some (vR 0), some (vI d), some (vI i), some (vI a), some (vI (bc10 (wEk f a))), some (vI i), some (vI 0)]) dX6_save_68 (by decide) rfl ?_
            have hcc := hc (by omega)
            exact lp_csave (by omega) (by omega) hI hBB h1f 10 0 i _ (by omega) (by omega) (by omega) (by omega) h0 h1 h2 h45 (hS.2.1 d (by omega)) (hQ (by omega) (by omega) (by omega))
          · refine wp_bipush dX6_save_61 rfl ?_
            exact wp_iret dX6_save_63 rfl (by first | exact hQ0 (by omega) | exact hQ1 (by omega) (by omega) | exact hQ2 (by omega) (by omega) (by omega))
      · refine wp_bipush dX6_save_28 rfl ?_
        exact wp_iret dX6_save_30 rfl (by first | exact hQ0 (by omega) | exact hQ1 (by omega) (by omega) | exact hQ2 (by omega) (by omega) (by omega))
    · refine wp_iconst dX6_save_17 ?_
      exact wp_iret dX6_save_18 rfl (by first | exact hQ0 (by omega) | exact hQ1 (by omega) (by omega) | exact hQ2 (by omega) (by omega) (by omega))
end SV
