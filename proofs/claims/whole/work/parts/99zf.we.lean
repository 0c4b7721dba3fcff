/-! an order weighed, the class -/
abbrev mnI (x y : Int) : Int := if x ≤ y then x else y
abbrev mxI (x y : Int) : Int := if x < y then y else x
def orB (fb : Int → Int) (v : Int) : Int → Int := ud fb (v / 64) (((fb (v / 64)).toNat ||| 2 ^ (v % 64).toNat : Nat) : Int)
def B64 (fb : Int → Int) : Prop := ∀ q, 0 ≤ q ∧ q < 16 → 0 ≤ fb q ∧ fb q < 18446744073709551616
def OPL (h0 h : AH) (n t s l m : Int) (o fs pi fb f : Int → Int) : Prop := h.length = h0.length ∧ (∀ i, i ≠ 4 → (i < 9 ∨ 14 ≤ i) → h[i]? = h0[i]?) ∧ h[9]? = some (oO 1 (oF n t s l m)) ∧ h[10]? = some (oI 8 o) ∧ h[11]? = some (oI 8 fs) ∧ h[12]? = some (oI 6 pi) ∧ h[13]? = some (oL 16 fb) ∧ h[4]? = some (oI 1060 f)
section WE_
variable {X : XS} {h h0 : AH} {Q : Option AV → AH → Prop} {n t s l m L k B : Int} {o fs pi fb f g : Int → Int} {b : Nat × Nat}
theorem wOg_b (f : Int → Int) : ∀ (m : Nat) (k n : Int), n ≤ wOgL f m k n ∧ wOgL f m k n ≤ n + m := by
  intro m
  induction m with
  | zero => intro k n; unfold wOgL; exact ⟨Int.le_refl _, by show n ≤ n + ((0 : Nat) : Int); omega⟩
  | succ m ih =>
    intro k n
    unfold wOgL
    (repeat' split)
    all_goals first | (have := ih (k + 1) (n + 1); omega) | (have := ih (k + 1) n; omega) | (have := ih (k + 1) (n + 0); omega)
theorem lor_v {v : Int} : Int64.ofInt 1 <<< ((Int32.ofInt (v % 64)).toInt64 &&& 63) = Int64.ofInt ((2 ^ (v % 64).toNat : Nat) : Int) := by
  have e := lor1 ⟨(v % 64).toNat, by omega⟩
  dsimp only at e
  rw [show (((v % 64).toNat : Nat) : Int) = v % 64 by omega] at e
  exact e
theorem lor_b {z v : Int} (hz : 0 ≤ z) : Int64.ofInt z ||| Int64.ofInt ((2 ^ (v % 64).toNat : Nat) : Int) = Int64.ofInt ((z.toNat ||| 2 ^ (v % 64).toNat : Nat) : Int) := by
  have e := i64_or z.toNat (2 ^ (v % 64).toNat)
  rw [show ((z.toNat : Nat) : Int) = z by omega] at e
  exact e
theorem orB_64 {v : Int} (h : B64 fb) (hv : 0 ≤ v ∧ v ≤ 999) : B64 (orB fb v) := fun q hq => by
  unfold orB
  rcases Decidable.em (q = v / 64) with e | e
  · rw [e, ud_eq]
    have z := h (v / 64) (by omega)
    have a : (fb (v / 64)).toNat ||| 2 ^ (v % 64).toNat < 2 ^ 64 := Nat.or_lt_two_pow (by omega) (Nat.pow_lt_pow_right (by decide) (by omega))
    omega
  · rw [ud_ne e]; exact h q hq
set_option maxHeartbeats 2000000 in
theorem C_weigh (hp : OPL h0 h n t s l m o fs pi fb f) (h03 : h0[3]? = some (oO 5 [vR 4])) (hA : AK B f g) (hB : 1000 ≤ B ∧ B ≤ 8000000) (hn : 0 ≤ n ∧ n ≤ 8) (hk : 0 ≤ k ∧ k < 10) (rL : r32 L) (rl : r32 l) (rm : r32 m) (hs : 0 ≤ s ∧ s ≤ 1000000) (hb : B64 fb) (hQ : ∀ h', OPL h0 h' n (t + 1) (if 0 < wOg f then s + 1 else s) (mnI l L) (mxI m L) o (if 0 < wOg f ∧ s = 0 then cpI o fs 0 0 n else fs) pi (if f 0 < f (sA 0 k + 5) then orB fb (f (sA 0 k + 0)) else fb) f → Q none h') : Cl X kX1_weigh [vR 9, vI L, vI k] h Q := by
  refine cl_of rfl (Nat.le_of_ble_eq_true rfl) rfl ?_
  obtain ⟨s1, s2, s9, s10, s11, s12, s13, s4⟩ := id hp
  have s3 := (s2 3 (by decide) (by decide)).trans h03
  have hI := (hA.iw hB.1).1
  have hR := hI.r (by omega)
  have ob := wOg_b f 6 0 0
  have oe : wOg f = wOgL f 6 0 0 := rfl
  have sp := hA.1.1.S 0 k (by omega) hk
  have en := (hA.2.1.en (a := 0) (k := k) (by omega) hk).2.1
  have vb : 0 ≤ f (sA 0 k + 0) ∧ f (sA 0 k + 0) ≤ 999 := by omega
  generalize hv : f (sA 0 k + 0) = v at *
  have vz := hb (v / 64) (by omega)
  refine wp_aload_n dX1_weigh_0 rfl ?_
  refine wp_dup dX1_weigh_1 rfl ?_
  refine wp_getf dX1_weigh_2 fX1_29 s9 rfl ?_
  refine wp_iconst dX1_weigh_5 ?_
  refine wp_iadd dX1_weigh_6 ?_
  refine wp_putv (fs' := oF n (t + 1) s l m) dX1_weigh_7 (pX1_29 rfl) s9 (Nat.le_of_ble_eq_true rfl) (fitF_int _) rfl ?_
  refine wp_aload_n dX1_weigh_10 rfl ?_
  refine wp_aload_n dX1_weigh_11 rfl ?_
  refine wp_getf dX1_weigh_12 fX1_39 (gs_eq (gs_lt s9)) rfl ?_
  refine wp_iload_n dX1_weigh_15 rfl ?_
  refine wp_min dX1_weigh_16 lX1_92 (by first | assumption | (unfold r32; omega)) (by first | assumption | (unfold r32; omega)) (Nat.le_of_ble_eq_true rfl) (Nat.le_of_ble_eq_true rfl) ?_
  refine wp_putv (fs' := oF n (t + 1) s (mnI l L) m) dX1_weigh_19 (pX1_39 rfl) (gs_eq (gs_lt s9)) (Nat.le_of_ble_eq_true rfl) (fitF_int _) rfl ?_
  refine wp_aload_n dX1_weigh_22 rfl ?_
  refine wp_aload_n dX1_weigh_23 rfl ?_
  refine wp_getf dX1_weigh_24 fX1_42 (gs_eq (gs_l (gs_lt s9))) rfl ?_
  refine wp_iload_n dX1_weigh_27 rfl ?_
  refine wp_max dX1_weigh_28 lX1_98 (by first | assumption | (unfold r32; omega)) (by first | assumption | (unfold r32; omega)) (Nat.le_of_ble_eq_true rfl) (Nat.le_of_ble_eq_true rfl) ?_
  refine wp_putv (fs' := oF n (t + 1) s (mnI l L) (mxI m L)) dX1_weigh_31 (pX1_42 rfl) (gs_eq (gs_l (gs_lt s9))) (Nat.le_of_ble_eq_true rfl) (fitF_int _) rfl ?_
  refine wp_aload_n dX1_weigh_34 rfl ?_
  refine wp_getf dX1_weigh_35 fX1_25 (gs_eq (gs_l (gs_l (gs_lt s9)))) rfl ?_
  refine wp_iv0 dX1_weigh_38 VX5_outdatedGroups lX1_101 (gs_ne (by decide) (gs_ne (by decide) (gs_ne (by decide) s3))) (rq0 rfl rfl) (Nat.le_of_ble_eq_true rfl) (sa_of (gs_ne (by decide) (gs_ne (by decide) (gs_ne (by decide) s4))) (C_woutdatedGroups (sa_mk (by decide) (gs_ne (by decide) (gs_ne (by decide) (gs_ne (by decide) s3))) rfl (gs_ne (by decide) (gs_ne (by decide) (gs_ne (by decide) s4)))) hI (by omega) ?_))
  dsimp only [pushR]
  rw [set_same (gs_ne (by decide) (gs_ne (by decide) (gs_ne (by decide) s4)))]
  refine wp_if_le 78 dX1_weigh_41 rfl (by first | assumption | (unfold r32; omega)) (fun c41 => ?_) (fun c41 => ?_)
  · refine wp_aload_n dX1_weigh_78 rfl ?_
    refine wp_getf dX1_weigh_79 fX1_25 (gs_eq (gs_l (gs_l (gs_lt s9)))) rfl ?_
    refine wp_iconst dX1_weigh_82 ?_
    refine wp_iload_n dX1_weigh_83 rfl ?_
    refine wp_iv2 dX1_weigh_84 VX5_hasEntry lX1_110 (gs_ne (by decide) (gs_ne (by decide) (gs_ne (by decide) s3))) (rq0 rfl rfl) (Nat.le_of_ble_eq_true rfl) (sa_of (gs_ne (by decide) (gs_ne (by decide) (gs_ne (by decide) s4))) (C_whasEntry (sa_mk (by decide) (gs_ne (by decide) (gs_ne (by decide) (gs_ne (by decide) s3))) rfl (gs_ne (by decide) (gs_ne (by decide) (gs_ne (by decide) s4)))) (by omega) hk rfl rfl (hR _) (hR _) ?_))
    dsimp only [pushR]
    rw [set_same (gs_ne (by decide) (gs_ne (by decide) (gs_ne (by decide) s4)))]
    refine wp_beq 119 dX1_weigh_87 rfl (fun c87 => ?_) (fun c87 => ?_)
    · exact wp_ret dX1_weigh_119 rfl (by
          (repeat' split at hQ) <;> first | (exfalso; omega) | exact hQ _ ⟨by simp only [List.length_set]; exact s1, fun j q4 q => by (repeat rw [List.getElem?_set_ne (by omega)]); exact s2 j q4 q, (gs_eq (gs_l (gs_l (gs_lt s9)))), (gs_ne (by decide) (gs_ne (by decide) (gs_ne (by decide) s10))), (gs_ne (by decide) (gs_ne (by decide) (gs_ne (by decide) s11))), (gs_ne (by decide) (gs_ne (by decide) (gs_ne (by decide) s12))), (gs_ne (by decide) (gs_ne (by decide) (gs_ne (by decide) s13))), (gs_ne (by decide) (gs_ne (by decide) (gs_ne (by decide) s4)))⟩)
    · refine wp_aload_n dX1_weigh_90 rfl ?_
      refine wp_getf dX1_weigh_91 fX1_25 (gs_eq (gs_l (gs_l (gs_lt s9)))) rfl ?_
      refine wp_iconst dX1_weigh_94 ?_
      refine wp_iload_n dX1_weigh_95 rfl ?_
      refine wp_iconst dX1_weigh_96 ?_
      refine wp_iv3 dX1_weigh_97 VX5_entryPart lX1_114 (gs_ne (by decide) (gs_ne (by decide) (gs_ne (by decide) s3))) (rq0 rfl rfl) (Nat.le_of_ble_eq_true rfl) (sa_of (gs_ne (by decide) (gs_ne (by decide) (gs_ne (by decide) s4))) (C_wentryPart (sa_mk (by decide) (gs_ne (by decide) (gs_ne (by decide) (gs_ne (by decide) s3))) rfl (gs_ne (by decide) (gs_ne (by decide) (gs_ne (by decide) s4)))) (by omega) hk (by omega) hv ?_))
      dsimp only [pushR]
      rw [set_same (gs_ne (by decide) (gs_ne (by decide) (gs_ne (by decide) s4)))]
      refine wp_istore_n (L' := [some (vR 9), some (vI L), some (vI k), some (vI v)]) dX1_weigh_100 (by decide) rfl ?_
      refine wp_aload_n dX1_weigh_101 rfl ?_
      refine wp_getf dX1_weigh_102 fX1_21 (gs_eq (gs_l (gs_l (gs_lt s9)))) rfl ?_
      refine wp_iload_n dX1_weigh_105 rfl ?_
      refine wp_bipush dX1_weigh_106 rfl ?_
      refine wp_idivn dX1_weigh_108 (by first | assumption | (unfold r32; omega)) ⟨by omega, by omega⟩ (by omega) (by omega) ?_
      refine wp_dup2 dX1_weigh_109 rfl rfl ?_
      refine wp_lav (v := fb (v / 64)) dX1_weigh_110 (gs_ne (by decide) (gs_ne (by decide) (gs_ne (by decide) s13))) (by decide) (by omega) rfl ?_
      refine wp_lconst (z := 1) dX1_weigh_111 rfl ?_
      refine wp_iload_n dX1_weigh_112 rfl ?_
      refine wp_bipush dX1_weigh_113 rfl ?_
      refine wp_iremn dX1_weigh_115 (by first | assumption | (unfold r32; omega)) ⟨by omega, by omega⟩ (by omega) (by omega) ?_
      refine wp_lshl (z := ((2 ^ (v % 64).toNat : Nat) : Int)) dX1_weigh_116 lor_v ?_
      refine wp_lor (z := (((fb (v / 64)).toNat ||| 2 ^ (v % 64).toNat : Nat) : Int)) dX1_weigh_117 (lor_b vz.1) ?_
      refine wp_lsv dX1_weigh_118 (gs_ne (by decide) (gs_ne (by decide) (gs_ne (by decide) s13))) (by decide) (by omega) ?_
      exact wp_ret dX1_weigh_119 rfl (by
          (repeat' split at hQ) <;> first | (exfalso; omega) | exact hQ _ ⟨by simp only [List.length_set]; exact s1, fun j q4 q => by (repeat rw [List.getElem?_set_ne (by omega)]); exact s2 j q4 q, (gs_ne (by decide) (gs_eq (gs_l (gs_l (gs_lt s9))))), (gs_ne (by decide) (gs_ne (by decide) (gs_ne (by decide) (gs_ne (by decide) s10)))), (gs_ne (by decide) (gs_ne (by decide) (gs_ne (by decide) (gs_ne (by decide) s11)))), (gs_ne (by decide) (gs_ne (by decide) (gs_ne (by decide) (gs_ne (by decide) s12)))), (gs_eq (gs_l (gs_l (gs_l (gs_lt s13))))), (gs_ne (by decide) (gs_ne (by decide) (gs_ne (by decide) (gs_ne (by decide) s4))))⟩)
  · refine wp_aload_n dX1_weigh_44 rfl ?_
    refine wp_getf dX1_weigh_45 fX1_33 (gs_eq (gs_l (gs_l (gs_lt s9)))) rfl ?_
    refine wp_if_ne 68 dX1_weigh_48 rfl (by first | assumption | (unfold r32; omega)) (fun c48 => ?_) (fun c48 => ?_)
    · refine wp_aload_n dX1_weigh_68 rfl ?_
      refine wp_dup dX1_weigh_69 rfl ?_
      refine wp_getf dX1_weigh_70 fX1_33 (gs_eq (gs_l (gs_l (gs_lt s9)))) rfl ?_
      refine wp_iconst dX1_weigh_73 ?_
      refine wp_iadd dX1_weigh_74 ?_
      refine wp_putv (fs' := oF n (t + 1) (s + 1) (mnI l L) (mxI m L)) dX1_weigh_75 (pX1_33 rfl) (gs_eq (gs_l (gs_l (gs_lt s9)))) (Nat.le_of_ble_eq_true rfl) (fitF_int _) rfl ?_
      refine wp_aload_n dX1_weigh_78 rfl ?_
      refine wp_getf dX1_weigh_79 fX1_25 (gs_eq (gs_l (gs_l (gs_l (gs_lt s9))))) rfl ?_
      refine wp_iconst dX1_weigh_82 ?_
      refine wp_iload_n dX1_weigh_83 rfl ?_
      refine wp_iv2 dX1_weigh_84 VX5_hasEntry lX1_110 (gs_ne (by decide) (gs_ne (by decide) (gs_ne (by decide) (gs_ne (by decide) s3)))) (rq0 rfl rfl) (Nat.le_of_ble_eq_true rfl) (sa_of (gs_ne (by decide) (gs_ne (by decide) (gs_ne (by decide) (gs_ne (by decide) s4)))) (C_whasEntry (sa_mk (by decide) (gs_ne (by decide) (gs_ne (by decide) (gs_ne (by decide) (gs_ne (by decide) s3)))) rfl (gs_ne (by decide) (gs_ne (by decide) (gs_ne (by decide) (gs_ne (by decide) s4))))) (by omega) hk rfl rfl (hR _) (hR _) ?_))
      dsimp only [pushR]
      rw [set_same (gs_ne (by decide) (gs_ne (by decide) (gs_ne (by decide) (gs_ne (by decide) s4))))]
      refine wp_beq 119 dX1_weigh_87 rfl (fun c87 => ?_) (fun c87 => ?_)
      · exact wp_ret dX1_weigh_119 rfl (by
            (repeat' split at hQ) <;> first | (exfalso; omega) | exact hQ _ ⟨by simp only [List.length_set]; exact s1, fun j q4 q => by (repeat rw [List.getElem?_set_ne (by omega)]); exact s2 j q4 q, (gs_eq (gs_l (gs_l (gs_l (gs_lt s9))))), (gs_ne (by decide) (gs_ne (by decide) (gs_ne (by decide) (gs_ne (by decide) s10)))), (gs_ne (by decide) (gs_ne (by decide) (gs_ne (by decide) (gs_ne (by decide) s11)))), (gs_ne (by decide) (gs_ne (by decide) (gs_ne (by decide) (gs_ne (by decide) s12)))), (gs_ne (by decide) (gs_ne (by decide) (gs_ne (by decide) (gs_ne (by decide) s13)))), (gs_ne (by decide) (gs_ne (by decide) (gs_ne (by decide) (gs_ne (by decide) s4))))⟩)
      · refine wp_aload_n dX1_weigh_90 rfl ?_
        refine wp_getf dX1_weigh_91 fX1_25 (gs_eq (gs_l (gs_l (gs_l (gs_lt s9))))) rfl ?_
        refine wp_iconst dX1_weigh_94 ?_
        refine wp_iload_n dX1_weigh_95 rfl ?_
        refine wp_iconst dX1_weigh_96 ?_
        refine wp_iv3 dX1_weigh_97 VX5_entryPart lX1_114 (gs_ne (by decide) (gs_ne (by decide) (gs_ne (by decide) (gs_ne (by decide) s3)))) (rq0 rfl rfl) (Nat.le_of_ble_eq_true rfl) (sa_of (gs_ne (by decide) (gs_ne (by decide) (gs_ne (by decide) (gs_ne (by decide) s4)))) (C_wentryPart (sa_mk (by decide) (gs_ne (by decide) (gs_ne (by decide) (gs_ne (by decide) (gs_ne (by decide) s3)))) rfl (gs_ne (by decide) (gs_ne (by decide) (gs_ne (by decide) (gs_ne (by decide) s4))))) (by omega) hk (by omega) hv ?_))
        dsimp only [pushR]
        rw [set_same (gs_ne (by decide) (gs_ne (by decide) (gs_ne (by decide) (gs_ne (by decide) s4))))]
        refine wp_istore_n (L' := [some (vR 9), some (vI L), some (vI k), some (vI v)]) dX1_weigh_100 (by decide) rfl ?_
        refine wp_aload_n dX1_weigh_101 rfl ?_
        refine wp_getf dX1_weigh_102 fX1_21 (gs_eq (gs_l (gs_l (gs_l (gs_lt s9))))) rfl ?_
        refine wp_iload_n dX1_weigh_105 rfl ?_
        refine wp_bipush dX1_weigh_106 rfl ?_
        refine wp_idivn dX1_weigh_108 (by first | assumption | (unfold r32; omega)) ⟨by omega, by omega⟩ (by omega) (by omega) ?_
        refine wp_dup2 dX1_weigh_109 rfl rfl ?_
        refine wp_lav (v := fb (v / 64)) dX1_weigh_110 (gs_ne (by decide) (gs_ne (by decide) (gs_ne (by decide) (gs_ne (by decide) s13)))) (by decide) (by omega) rfl ?_
        refine wp_lconst (z := 1) dX1_weigh_111 rfl ?_
        refine wp_iload_n dX1_weigh_112 rfl ?_
        refine wp_bipush dX1_weigh_113 rfl ?_
        refine wp_iremn dX1_weigh_115 (by first | assumption | (unfold r32; omega)) ⟨by omega, by omega⟩ (by omega) (by omega) ?_
        refine wp_lshl (z := ((2 ^ (v % 64).toNat : Nat) : Int)) dX1_weigh_116 lor_v ?_
        refine wp_lor (z := (((fb (v / 64)).toNat ||| 2 ^ (v % 64).toNat : Nat) : Int)) dX1_weigh_117 (lor_b vz.1) ?_
        refine wp_lsv dX1_weigh_118 (gs_ne (by decide) (gs_ne (by decide) (gs_ne (by decide) (gs_ne (by decide) s13)))) (by decide) (by omega) ?_
        exact wp_ret dX1_weigh_119 rfl (by
            (repeat' split at hQ) <;> first | (exfalso; omega) | exact hQ _ ⟨by simp only [List.length_set]; exact s1, fun j q4 q => by (repeat rw [List.getElem?_set_ne (by omega)]); exact s2 j q4 q, (gs_ne (by decide) (gs_eq (gs_l (gs_l (gs_l (gs_lt s9)))))), (gs_ne (by decide) (gs_ne (by decide) (gs_ne (by decide) (gs_ne (by decide) (gs_ne (by decide) s10))))), (gs_ne (by decide) (gs_ne (by decide) (gs_ne (by decide) (gs_ne (by decide) (gs_ne (by decide) s11))))), (gs_ne (by decide) (gs_ne (by decide) (gs_ne (by decide) (gs_ne (by decide) (gs_ne (by decide) s12))))), (gs_eq (gs_l (gs_l (gs_l (gs_l (gs_lt s13)))))), (gs_ne (by decide) (gs_ne (by decide) (gs_ne (by decide) (gs_ne (by decide) (gs_ne (by decide) s4)))))⟩)
    · refine wp_aload_n dX1_weigh_51 rfl ?_
      refine wp_getf dX1_weigh_52 fX1_9 (gs_eq (gs_l (gs_l (gs_lt s9)))) rfl ?_
      refine wp_iconst dX1_weigh_55 ?_
      refine wp_aload_n dX1_weigh_56 rfl ?_
      refine wp_getf dX1_weigh_57 fX1_15 (gs_eq (gs_l (gs_l (gs_lt s9)))) rfl ?_
      refine wp_iconst dX1_weigh_60 ?_
      refine wp_aload_n dX1_weigh_61 rfl ?_
      refine wp_getf dX1_weigh_62 fX1_68 (gs_eq (gs_l (gs_l (gs_lt s9)))) rfl ?_
      refine wp_copyi dX1_weigh_65 aX1_104 (gs_ne (by decide) (gs_ne (by decide) (gs_ne (by decide) s10))) (gs_ne (by decide) (gs_ne (by decide) (gs_ne (by decide) s11))) (by decide) (by decide) (by omega) (by omega) (by omega) (by omega) (by omega) (Nat.le_of_ble_eq_true rfl) (Nat.le_of_ble_eq_true rfl) ?_
      refine wp_aload_n dX1_weigh_68 rfl ?_
      refine wp_dup dX1_weigh_69 rfl ?_
      refine wp_getf dX1_weigh_70 fX1_33 (gs_ne (by decide) (gs_eq (gs_l (gs_l (gs_lt s9))))) rfl ?_
      refine wp_iconst dX1_weigh_73 ?_
      refine wp_iadd dX1_weigh_74 ?_
      refine wp_putv (fs' := oF n (t + 1) (s + 1) (mnI l L) (mxI m L)) dX1_weigh_75 (pX1_33 rfl) (gs_ne (by decide) (gs_eq (gs_l (gs_l (gs_lt s9))))) (Nat.le_of_ble_eq_true rfl) (fitF_int _) rfl ?_
      refine wp_aload_n dX1_weigh_78 rfl ?_
      refine wp_getf dX1_weigh_79 fX1_25 (gs_eq (gs_l (gs_l (gs_l (gs_l (gs_lt s9)))))) rfl ?_
      refine wp_iconst dX1_weigh_82 ?_
      refine wp_iload_n dX1_weigh_83 rfl ?_
      refine wp_iv2 dX1_weigh_84 VX5_hasEntry lX1_110 (gs_ne (by decide) (gs_ne (by decide) (gs_ne (by decide) (gs_ne (by decide) (gs_ne (by decide) s3))))) (rq0 rfl rfl) (Nat.le_of_ble_eq_true rfl) (sa_of (gs_ne (by decide) (gs_ne (by decide) (gs_ne (by decide) (gs_ne (by decide) (gs_ne (by decide) s4))))) (C_whasEntry (sa_mk (by decide) (gs_ne (by decide) (gs_ne (by decide) (gs_ne (by decide) (gs_ne (by decide) (gs_ne (by decide) s3))))) rfl (gs_ne (by decide) (gs_ne (by decide) (gs_ne (by decide) (gs_ne (by decide) (gs_ne (by decide) s4)))))) (by omega) hk rfl rfl (hR _) (hR _) ?_))
      dsimp only [pushR]
      rw [set_same (gs_ne (by decide) (gs_ne (by decide) (gs_ne (by decide) (gs_ne (by decide) (gs_ne (by decide) s4)))))]
      refine wp_beq 119 dX1_weigh_87 rfl (fun c87 => ?_) (fun c87 => ?_)
      · exact wp_ret dX1_weigh_119 rfl (by
            (repeat' split at hQ) <;> first | (exfalso; omega) | exact hQ _ ⟨by simp only [List.length_set]; exact s1, fun j q4 q => by (repeat rw [List.getElem?_set_ne (by omega)]); exact s2 j q4 q, (gs_eq (gs_l (gs_l (gs_l (gs_l (gs_lt s9)))))), (gs_ne (by decide) (gs_ne (by decide) (gs_ne (by decide) (gs_ne (by decide) (gs_ne (by decide) s10))))), (gs_ne (by decide) (gs_eq (gs_l (gs_l (gs_l (gs_lt s11)))))), (gs_ne (by decide) (gs_ne (by decide) (gs_ne (by decide) (gs_ne (by decide) (gs_ne (by decide) s12))))), (gs_ne (by decide) (gs_ne (by decide) (gs_ne (by decide) (gs_ne (by decide) (gs_ne (by decide) s13))))), (gs_ne (by decide) (gs_ne (by decide) (gs_ne (by decide) (gs_ne (by decide) (gs_ne (by decide) s4)))))⟩)
      · refine wp_aload_n dX1_weigh_90 rfl ?_
        refine wp_getf dX1_weigh_91 fX1_25 (gs_eq (gs_l (gs_l (gs_l (gs_l (gs_lt s9)))))) rfl ?_
        refine wp_iconst dX1_weigh_94 ?_
        refine wp_iload_n dX1_weigh_95 rfl ?_
        refine wp_iconst dX1_weigh_96 ?_
        refine wp_iv3 dX1_weigh_97 VX5_entryPart lX1_114 (gs_ne (by decide) (gs_ne (by decide) (gs_ne (by decide) (gs_ne (by decide) (gs_ne (by decide) s3))))) (rq0 rfl rfl) (Nat.le_of_ble_eq_true rfl) (sa_of (gs_ne (by decide) (gs_ne (by decide) (gs_ne (by decide) (gs_ne (by decide) (gs_ne (by decide) s4))))) (C_wentryPart (sa_mk (by decide) (gs_ne (by decide) (gs_ne (by decide) (gs_ne (by decide) (gs_ne (by decide) (gs_ne (by decide) s3))))) rfl (gs_ne (by decide) (gs_ne (by decide) (gs_ne (by decide) (gs_ne (by decide) (gs_ne (by decide) s4)))))) (by omega) hk (by omega) hv ?_))
        dsimp only [pushR]
        rw [set_same (gs_ne (by decide) (gs_ne (by decide) (gs_ne (by decide) (gs_ne (by decide) (gs_ne (by decide) s4)))))]
        refine wp_istore_n (L' := [some (vR 9), some (vI L), some (vI k), some (vI v)]) dX1_weigh_100 (by decide) rfl ?_
        refine wp_aload_n dX1_weigh_101 rfl ?_
        refine wp_getf dX1_weigh_102 fX1_21 (gs_eq (gs_l (gs_l (gs_l (gs_l (gs_lt s9)))))) rfl ?_
        refine wp_iload_n dX1_weigh_105 rfl ?_
        refine wp_bipush dX1_weigh_106 rfl ?_
        refine wp_idivn dX1_weigh_108 (by first | assumption | (unfold r32; omega)) ⟨by omega, by omega⟩ (by omega) (by omega) ?_
        refine wp_dup2 dX1_weigh_109 rfl rfl ?_
        refine wp_lav (v := fb (v / 64)) dX1_weigh_110 (gs_ne (by decide) (gs_ne (by decide) (gs_ne (by decide) (gs_ne (by decide) (gs_ne (by decide) s13))))) (by decide) (by omega) rfl ?_
        refine wp_lconst (z := 1) dX1_weigh_111 rfl ?_
        refine wp_iload_n dX1_weigh_112 rfl ?_
        refine wp_bipush dX1_weigh_113 rfl ?_
        refine wp_iremn dX1_weigh_115 (by first | assumption | (unfold r32; omega)) ⟨by omega, by omega⟩ (by omega) (by omega) ?_
        refine wp_lshl (z := ((2 ^ (v % 64).toNat : Nat) : Int)) dX1_weigh_116 lor_v ?_
        refine wp_lor (z := (((fb (v / 64)).toNat ||| 2 ^ (v % 64).toNat : Nat) : Int)) dX1_weigh_117 (lor_b vz.1) ?_
        refine wp_lsv dX1_weigh_118 (gs_ne (by decide) (gs_ne (by decide) (gs_ne (by decide) (gs_ne (by decide) (gs_ne (by decide) s13))))) (by decide) (by omega) ?_
        exact wp_ret dX1_weigh_119 rfl (by
            (repeat' split at hQ) <;> first | (exfalso; omega) | exact hQ _ ⟨by simp only [List.length_set]; exact s1, fun j q4 q => by (repeat rw [List.getElem?_set_ne (by omega)]); exact s2 j q4 q, (gs_ne (by decide) (gs_eq (gs_l (gs_l (gs_l (gs_l (gs_lt s9))))))), (gs_ne (by decide) (gs_ne (by decide) (gs_ne (by decide) (gs_ne (by decide) (gs_ne (by decide) (gs_ne (by decide) s10)))))), (gs_ne (by decide) (gs_ne (by decide) (gs_eq (gs_l (gs_l (gs_l (gs_lt s11))))))), (gs_ne (by decide) (gs_ne (by decide) (gs_ne (by decide) (gs_ne (by decide) (gs_ne (by decide) (gs_ne (by decide) s12)))))), (gs_eq (gs_l (gs_l (gs_l (gs_l (gs_l (gs_lt s13))))))), (gs_ne (by decide) (gs_ne (by decide) (gs_ne (by decide) (gs_ne (by decide) (gs_ne (by decide) (gs_ne (by decide) s4))))))⟩)
end WE_
