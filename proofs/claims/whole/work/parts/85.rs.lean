/-! bringing one value back from a shelf, both faces -/
abbrev cOk (f : Int → Int) (x : Int) : Prop := 0 ≤ x ∧ x / 1000 % 1000 < 10 ∧ x / 1000000 ≤ f 1 ∧ wWw f (x / 1000000) (x / 1000 % 1000) (x % 1000) ≠ 0
def cIn (f : Int → Int) (a x : Int) : Int → Int := wIns f a (x / 1000 % 1000) (x % 1000) (x / 1000000) (f (3 + 5))
abbrev rOk (g : Int → Int) (x : Int) : Prop := 0 ≤ x ∧ x / 1000 % 1000 < 10 ∧ x / 1000000 ≤ g 2 ∧ (x / 1000000 = 0 ∧ x % 1000 = 0 ∨ x / 1000000 ≠ 0 ∧ g (36 + 3 * (x / 1000000 - 1)) = x / 1000 % 1000 ∧ valO g (x / 1000000) = x % 1000)
def rIn (g : Int → Int) (a x : Int) : Int → Int := ud (spFills g a (x / 1000 % 1000) (x % 1000) (x / 1000000)) 20 (spFills g a (x / 1000 % 1000) (x % 1000) (x / 1000000) 20 + 1)
section RS
variable {X : XS} {h : AH} {Q : Option AV → AH → Prop} {sp kp : AV} {Rc : Int → Int → Int} {Zc : Int → Int} {f g Kp : Int → Int} {dn km ln ik B : Int} {T P PS R Z I : Int → Int} {fs : List AV}
theorem r64_of {x : Int} (h : r32 x) : r64 x := by unfold r32 at h; unfold r64; omega
theorem td_neg {x y : Int} (h : x < 0) : x.tdiv y = -(-x / y) := by
  have e : x = -(-x) := by omega
  rw [e, Int.neg_tdiv, Int.tdiv_eq_ediv_of_nonneg (by omega), Int.neg_neg]
theorem td_r {x : Int} (h : x < 0) (hx : r64 x) : r64 (x.tdiv 1000000) ∧ r64 (x.tdiv 1000) := by
  rw [td_neg h, td_neg h]
  unfold r64 at *
  omega
theorem wWw_01 (f : Int → Int) (n k v : Int) : wWw f n k v = 0 ∨ wWw f n k v = 1 := by unfold wWw; (repeat' split) <;> omega
set_option maxHeartbeats 2000000 in
theorem C_restoreOne {a x : Int} (h0 : h[0]? = some (oO 6 (cF sp kp))) (h1 : h[1]? = some (oO 5 fs)) (h1f : fs[0]? = some (vR 2)) (h2 : h[2]? = some (oI 1060 f)) (hI : IW B f) (hBB : B ≤ 8000000) (ha : 0 ≤ a ∧ a < 6) (hx : r64 x) (hn : f 1 ≤ 60) (ht : 0 ≤ f (3 + 5) ∧ f (3 + 5) < 4) (hQ0 : ¬ cOk f x → Q (some (vI 0)) h) (hQ : cOk f x → Q (some (vI 1)) (h.set 2 (oI 1060 (cIn f a x)))) : Cl X kX6_restoreOne [vR 0, vL x, vI a] h Q := by
  refine cl_of rfl (Nat.le_of_ble_eq_true rfl) rfl ?_
  have hR := hI.r (by omega)
  have hw := wWw_01 f (x / 1000000) (x / 1000 % 1000) (x % 1000)
  have hw2 : r32 (wWw f (x / 1000000) (x / 1000 % 1000) (x % 1000)) := by unfold r32; omega
  refine wp_lload_n dX6_restoreOne_0 rfl ?_
  refine wp_lconst (z := 0) dX6_restoreOne_1 rfl ?_
  refine wp_lc_ge 8 dX6_restoreOne_2 dX6_restoreOne_3 rfl (by first | assumption | exact r64_of (hR _) | (unfold r64 r32 at *; omega)) ⟨by omega, by omega⟩ (fun c3 => ?_) (fun c3 => ?_)
  · refine wp_lload_n dX6_restoreOne_8 rfl ?_
    refine wp_ldc2 dX6_restoreOne_9 cX6_326 ?_
    refine wp_ldivn dX6_restoreOne_12 (by first | assumption | exact r64_of (hR _) | (unfold r64 r32 at *; omega)) ⟨by omega, by omega⟩ (by omega) (by omega) ?_
    refine wp_lstore (L' := [some (vR 0), some (vL x), none, some (vI a), some (vL (x / 1000000)), none, none, none]) dX6_restoreOne_13 (by decide) rfl ?_
    refine wp_lload_n dX6_restoreOne_15 rfl ?_
    refine wp_ldc2 dX6_restoreOne_16 cX6_328 ?_
    refine wp_ldivn dX6_restoreOne_19 (by first | assumption | exact r64_of (hR _) | (unfold r64 r32 at *; omega)) ⟨by omega, by omega⟩ (by omega) (by omega) ?_
    refine wp_ldc2 dX6_restoreOne_20 cX6_328 ?_
    refine wp_lremn dX6_restoreOne_23 (by first | assumption | exact r64_of (hR _) | (unfold r64 r32 at *; omega)) ⟨by omega, by omega⟩ (by omega) (by omega) ?_
    refine wp_l2i dX6_restoreOne_24 ?_
    refine wp_istore (L' := [some (vR 0), some (vL x), none, some (vI a), some (vL (x / 1000000)), none, some (vI ((x / 1000) % 1000)), none]) dX6_restoreOne_25 (by decide) rfl ?_
    refine wp_lload_n dX6_restoreOne_27 rfl ?_
    refine wp_ldc2 dX6_restoreOne_28 cX6_328 ?_
    refine wp_lremn dX6_restoreOne_31 (by first | assumption | exact r64_of (hR _) | (unfold r64 r32 at *; omega)) ⟨by omega, by omega⟩ (by omega) (by omega) ?_
    refine wp_l2i dX6_restoreOne_32 ?_
    refine wp_istore (L' := [some (vR 0), some (vL x), none, some (vI a), some (vL (x / 1000000)), none, some (vI ((x / 1000) % 1000)), some (vI (x % 1000))]) dX6_restoreOne_33 (by decide) rfl ?_
    refine wp_iload dX6_restoreOne_35 rfl ?_
    refine wp_bipush dX6_restoreOne_37 rfl ?_
    refine wp_icmp_ge 73 dX6_restoreOne_39 rfl (by first | assumption | exact hR _ | exact bI_r _ | (unfold r32; omega)) ⟨by omega, by omega⟩ (fun c39 => ?_) (fun c39 => ?_)
    · refine wp_iconst dX6_restoreOne_73 ?_
      exact wp_zret dX6_restoreOne_74 rfl (Or.inl rfl) (hQ0 (by unfold cOk; omega))
    · refine wp_lload dX6_restoreOne_42 rfl ?_
      refine wp_aload_n dX6_restoreOne_44 rfl ?_
      refine wp_getf dX6_restoreOne_45 fX6_10 h0 rfl ?_
      refine wp_iv0 dX6_restoreOne_48 VX5_writes lX6_169 h1 (rq0 rfl rfl) (Nat.le_of_ble_eq_true rfl) (sa_of h2 (C_wwrites (sa_mk (by decide) h1 h1f h2) rfl ?_))
      dsimp only [pushR]
      rw [set_same h2]
      refine wp_i2l dX6_restoreOne_51 (by first | assumption | exact hR _ | exact bI_r _ | (unfold r32; omega)) ?_
      refine wp_lc_gt 73 dX6_restoreOne_52 dX6_restoreOne_53 rfl (by first | assumption | exact r64_of (hR _) | (unfold r64 r32 at *; omega)) (by first | assumption | exact r64_of (hR _) | (unfold r64 r32 at *; omega)) (fun c53 => ?_) (fun c53 => ?_)
      · refine wp_iconst dX6_restoreOne_73 ?_
        exact wp_zret dX6_restoreOne_74 rfl (Or.inl rfl) (hQ0 (by unfold cOk; omega))
      · refine wp_aload_n dX6_restoreOne_56 rfl ?_
        refine wp_getf dX6_restoreOne_57 fX6_10 h0 rfl ?_
        refine wp_lload dX6_restoreOne_60 rfl ?_
        refine wp_l2i dX6_restoreOne_62 ?_
        refine wp_iload dX6_restoreOne_63 rfl ?_
        refine wp_iload dX6_restoreOne_65 rfl ?_
        refine wp_iv3 dX6_restoreOne_67 VX5_wasWritten lX6_330 h1 (rq0 rfl rfl) (Nat.le_of_ble_eq_true rfl) (sa_of h2 (C_wwasWritten (sa_mk (by decide) h1 h1f h2) hI (by omega) (by omega) (by omega) (by unfold r32; omega) ?_))
        dsimp only [pushR]
        rw [set_same h2]
        refine wp_if_ne 75 dX6_restoreOne_70 rfl (by first | assumption | exact hR _ | exact bI_r _ | (unfold r32; omega)) (fun c70 => ?_) (fun c70 => ?_)
        · refine wp_aload_n dX6_restoreOne_75 rfl ?_
          refine wp_getf dX6_restoreOne_76 fX6_10 h0 rfl ?_
          refine wp_iload_n dX6_restoreOne_79 rfl ?_
          refine wp_iload dX6_restoreOne_80 rfl ?_
          refine wp_iload dX6_restoreOne_82 rfl ?_
          refine wp_lload dX6_restoreOne_84 rfl ?_
          refine wp_l2i dX6_restoreOne_86 ?_
          refine wp_aload_n dX6_restoreOne_87 rfl ?_
          refine wp_getf dX6_restoreOne_88 fX6_10 h0 rfl ?_
          refine wp_iconst dX6_restoreOne_91 ?_
          refine wp_iv1 dX6_restoreOne_92 VX5_settingOf lX6_142 h1 (rq0 rfl rfl) (Nat.le_of_ble_eq_true rfl) (sa_of h2 (C_wsettingOf (sa_mk (by decide) h1 h1f h2) (by omega) rfl ?_))
          dsimp only [pushR]
          rw [set_same h2]
          refine wp_iv5 dX6_restoreOne_95 VX5_install lX6_333 h1 (rq0 rfl rfl) (Nat.le_of_ble_eq_true rfl) (sa_of h2 (C_winstall (sa_mk (by decide) h1 h1f h2) hI (by omega) ha (by omega) ht ?_))
          dsimp only [pushR]
          refine wp_iconst dX6_restoreOne_98 ?_
          exact wp_zret dX6_restoreOne_99 rfl (Or.inr rfl) (hQ (by unfold cOk; omega))
        · refine wp_iconst dX6_restoreOne_73 ?_
          exact wp_zret dX6_restoreOne_74 rfl (Or.inl rfl) (hQ0 (by unfold cOk; omega))
  · refine wp_iconst dX6_restoreOne_6 ?_
    exact wp_zret dX6_restoreOne_7 rfl (Or.inl rfl) (hQ0 (by unfold cOk; omega))
set_option maxHeartbeats 2000000 in
theorem C_restores {a x at_ ft ac mn om fw mo un : Int} (m51 : h[51]? = some (oO 7 (mF dn km ln at_ ft ac mn om fw mo un ik))) (m52 : h[52]? = some (oI 1014 g)) (hI : IM B g) (hBB : B ≤ 8000000) (ha : 0 ≤ a ∧ a < 6) (hx : r64 x) (hQ0 : ¬ rOk g x → Q (some (vI 0)) h) (hQ : rOk g x → Q (some (vI 1)) (h.set 52 (oI 1014 (rIn g a x)))) : Cl X kX7_restores [vR 51, vL x, vI a] h Q := by
  refine cl_of rfl (Nat.le_of_ble_eq_true rfl) rfl ?_
  have hR := hI.r (by omega)
  have n0 := hI.n0 (j := 0) (by omega)
  have n2 := hI.n60 (j := 2) (by omega)
  have b0 := hI.b 0
  have st := hI.set
  have hB0 : 0 ≤ B := by omega
  have hv : 0 ≤ x / 1000000 → x / 1000000 ≤ g 2 → r32 (valO g (x / 1000000)) := fun _ _ => by
    unfold valO
    split
    · unfold r32; omega
    · exact hR _
  rcases Decidable.em (x < 0) with cx | cx
  · have tr := td_r cx hx
    have tr1 := tr.1
    have tr2 := tr.2
    refine wp_lload_n dX7_restores_0 rfl ?_
    refine wp_ldc2 dX7_restores_1 cX7_342 ?_
    refine wp_ldiv dX7_restores_4 (by first | assumption | exact r64_of (hR _) | (unfold r64 r32 at *; omega)) ⟨by omega, by omega⟩ (by omega) ?_
    refine wp_lstore (L' := [some (vR 51), some (vL x), none, some (vI a), some (vL (Int.tdiv x 1000000)), none, none, none, none, none]) dX7_restores_5 (by decide) rfl ?_
    refine wp_lload_n dX7_restores_7 rfl ?_
    refine wp_ldc2 dX7_restores_8 cX7_212 ?_
    refine wp_ldiv dX7_restores_11 (by first | assumption | exact r64_of (hR _) | (unfold r64 r32 at *; omega)) ⟨by omega, by omega⟩ (by omega) ?_
    refine wp_ldc2 dX7_restores_12 cX7_212 ?_
    refine wp_lrem dX7_restores_15 (by first | assumption | exact r64_of (hR _) | (unfold r64 r32 at *; omega)) ⟨by omega, by omega⟩ (by omega) ?_
    refine wp_lstore (L' := [some (vR 51), some (vL x), none, some (vI a), some (vL (Int.tdiv x 1000000)), none, some (vL (Int.tmod (Int.tdiv x 1000) 1000)), none, none, none]) dX7_restores_16 (by decide) rfl ?_
    refine wp_lload_n dX7_restores_18 rfl ?_
    refine wp_ldc2 dX7_restores_19 cX7_212 ?_
    refine wp_lrem dX7_restores_22 (by first | assumption | exact r64_of (hR _) | (unfold r64 r32 at *; omega)) ⟨by omega, by omega⟩ (by omega) ?_
    refine wp_l2i dX7_restores_23 ?_
    refine wp_istore (L' := [some (vR 51), some (vL x), none, some (vI a), some (vL (Int.tdiv x 1000000)), none, some (vL (Int.tmod (Int.tdiv x 1000) 1000)), none, some (vI (Int.tmod x 1000)), none]) dX7_restores_24 (by decide) rfl ?_
    refine wp_lload_n dX7_restores_26 rfl ?_
    refine wp_lconst (z := 0) dX7_restores_27 rfl ?_
    refine wp_lc_lt 54 dX7_restores_28 dX7_restores_29 rfl (by first | assumption | exact r64_of (hR _) | (unfold r64 r32 at *; omega)) ⟨by omega, by omega⟩ (fun c29 => ?_) (fun c29 => ?_)
    · refine wp_iconst dX7_restores_54 ?_
      exact wp_zret dX7_restores_55 rfl (Or.inl rfl) (hQ0 (by unfold rOk; omega))
    · exfalso; omega
  · have hx0 : 0 ≤ x := by omega
    refine wp_lload_n dX7_restores_0 rfl ?_
    refine wp_ldc2 dX7_restores_1 cX7_342 ?_
    refine wp_ldivn dX7_restores_4 (by first | assumption | exact r64_of (hR _) | (unfold r64 r32 at *; omega)) ⟨by omega, by omega⟩ (by omega) (by omega) ?_
    refine wp_lstore (L' := [some (vR 51), some (vL x), none, some (vI a), some (vL (x / 1000000)), none, none, none, none, none]) dX7_restores_5 (by decide) rfl ?_
    refine wp_lload_n dX7_restores_7 rfl ?_
    refine wp_ldc2 dX7_restores_8 cX7_212 ?_
    refine wp_ldivn dX7_restores_11 (by first | assumption | exact r64_of (hR _) | (unfold r64 r32 at *; omega)) ⟨by omega, by omega⟩ (by omega) (by omega) ?_
    refine wp_ldc2 dX7_restores_12 cX7_212 ?_
    refine wp_lremn dX7_restores_15 (by first | assumption | exact r64_of (hR _) | (unfold r64 r32 at *; omega)) ⟨by omega, by omega⟩ (by omega) (by omega) ?_
    refine wp_lstore (L' := [some (vR 51), some (vL x), none, some (vI a), some (vL (x / 1000000)), none, some (vL ((x / 1000) % 1000)), none, none, none]) dX7_restores_16 (by decide) rfl ?_
    refine wp_lload_n dX7_restores_18 rfl ?_
    refine wp_ldc2 dX7_restores_19 cX7_212 ?_
    refine wp_lremn dX7_restores_22 (by first | assumption | exact r64_of (hR _) | (unfold r64 r32 at *; omega)) ⟨by omega, by omega⟩ (by omega) (by omega) ?_
    refine wp_l2i dX7_restores_23 ?_
    refine wp_istore (L' := [some (vR 51), some (vL x), none, some (vI a), some (vL (x / 1000000)), none, some (vL ((x / 1000) % 1000)), none, some (vI (x % 1000)), none]) dX7_restores_24 (by decide) rfl ?_
    refine wp_lload_n dX7_restores_26 rfl ?_
    refine wp_lconst (z := 0) dX7_restores_27 rfl ?_
    refine wp_lc_lt 54 dX7_restores_28 dX7_restores_29 rfl (by first | assumption | exact r64_of (hR _) | (unfold r64 r32 at *; omega)) ⟨by omega, by omega⟩ (fun c29 => ?_) (fun c29 => ?_)
    · refine wp_iconst dX7_restores_54 ?_
      exact wp_zret dX7_restores_55 rfl (Or.inl rfl) (hQ0 (by unfold rOk; omega))
    · refine wp_lload dX7_restores_32 rfl ?_
      refine wp_ldc2 dX7_restores_34 cX7_214 ?_
      refine wp_lc_ge 54 dX7_restores_37 dX7_restores_38 rfl (by first | assumption | exact r64_of (hR _) | (unfold r64 r32 at *; omega)) ⟨by omega, by omega⟩ (fun c38 => ?_) (fun c38 => ?_)
      · refine wp_iconst dX7_restores_54 ?_
        exact wp_zret dX7_restores_55 rfl (Or.inl rfl) (hQ0 (by unfold rOk; omega))
      · refine wp_lload dX7_restores_41 rfl ?_
        refine wp_aload_n dX7_restores_43 rfl ?_
        refine wp_getf dX7_restores_44 fX7_9 m51 rfl ?_
        refine wp_iconst dX7_restores_47 ?_
        refine wp_iav (v := g 2) dX7_restores_48 m52 (by decide) (by omega) rfl ?_
        refine wp_i2l dX7_restores_49 (by first | assumption | exact hR _ | exact bI_r _ | (unfold r32; omega)) ?_
        refine wp_lc_le 56 dX7_restores_50 dX7_restores_51 rfl (by first | assumption | exact r64_of (hR _) | (unfold r64 r32 at *; omega)) (by first | assumption | exact r64_of (hR _) | (unfold r64 r32 at *; omega)) (fun c51 => ?_) (fun c51 => ?_)
        · refine wp_lload dX7_restores_56 rfl ?_
          refine wp_l2i dX7_restores_58 ?_
          refine wp_istore (L' := [some (vR 51), some (vL x), none, some (vI a), some (vL (x / 1000000)), none, some (vL ((x / 1000) % 1000)), none, some (vI (x % 1000)), some (vI (x / 1000000))]) dX7_restores_59 (by decide) rfl ?_
          refine wp_iload dX7_restores_61 rfl ?_
          refine wp_if_ne 74 dX7_restores_63 rfl (by first | assumption | exact hR _ | exact bI_r _ | (unfold r32; omega)) (fun c63 => ?_) (fun c63 => ?_)
          · refine wp_aload_n dX7_restores_74 rfl ?_
            refine wp_iload dX7_restores_75 rfl ?_
            refine wp_iv1 dX7_restores_77 VX7_keyOf lX7_102 m51 (rq0 rfl rfl) (Nat.le_of_ble_eq_true rfl) (sa_of m52 (C_keyOf (sa_mk (by decide) m51 rfl m52) (by omega) rfl ?_))
            dsimp only [pushR]
            rw [set_same m52]
            refine wp_i2l dX7_restores_80 (by first | assumption | exact hR _ | exact bI_r _ | (unfold r32; omega)) ?_
            refine wp_lload dX7_restores_81 rfl ?_
            refine wp_lc_ne 98 dX7_restores_83 dX7_restores_84 rfl (by first | assumption | exact r64_of (hR _) | (unfold r64 r32 at *; omega)) (by first | assumption | exact r64_of (hR _) | (unfold r64 r32 at *; omega)) (fun c84 => ?_) (fun c84 => ?_)
            · refine wp_iconst dX7_restores_98 ?_
              exact wp_zret dX7_restores_99 rfl (Or.inl rfl) (hQ0 (by unfold rOk; omega))
            · refine wp_aload_n dX7_restores_87 rfl ?_
              refine wp_iload dX7_restores_88 rfl ?_
              refine wp_iv1 dX7_restores_90 VX7_valueOf lX7_128 m51 (rq0 rfl rfl) (Nat.le_of_ble_eq_true rfl) (sa_of m52 (C_valueOf (sa_mk (by decide) m51 rfl m52) (by omega) ?_))
              dsimp only [pushR]
              rw [set_same m52]
              refine wp_iload dX7_restores_93 rfl ?_
              refine wp_icmp_eq 100 dX7_restores_95 rfl (by first | exact hv (by omega) (by omega) | (unfold r32; omega)) (by first | exact hv (by omega) (by omega) | (unfold r32; omega)) (fun c95 => ?_) (fun c95 => ?_)
              · refine wp_aload_n dX7_restores_100 rfl ?_
                refine wp_iload_n dX7_restores_101 rfl ?_
                refine wp_lload dX7_restores_102 rfl ?_
                refine wp_l2i dX7_restores_104 ?_
                refine wp_iload dX7_restores_105 rfl ?_
                refine wp_iload dX7_restores_107 rfl ?_
                refine wp_iv4 dX7_restores_109 VX7_fills lX7_140 m51 (rq0 rfl rfl) (Nat.le_of_ble_eq_true rfl) (sa_of m52 (C_fills (sa_mk (by decide) m51 rfl m52) hI.bd (by omega) ha (by omega) hB0 n0 (by omega) ?_))
                dsimp only [pushR]
                refine wp_aload_n dX7_restores_112 rfl ?_
                refine wp_getf dX7_restores_113 fX7_9 (gs_ne (by decide) m51) rfl ?_
                refine wp_bipush dX7_restores_116 rfl ?_
                refine wp_dup2 dX7_restores_118 rfl rfl ?_
                refine wp_iav (v := (spFills g a ((x / 1000) % 1000) (x % 1000) (x / 1000000)) 20) dX7_restores_119 (gs_eq (gs_lt m52)) (by decide) (by omega) rfl ?_
                refine wp_iconst dX7_restores_120 ?_
                refine wp_iadd dX7_restores_121 ?_
                refine wp_isv dX7_restores_122 (gs_eq (gs_lt m52)) (by decide) (by omega) ?_
                refine wp_iconst dX7_restores_123 ?_
                exact wp_zret dX7_restores_124 rfl (Or.inr rfl) (by have q := hQ (by unfold rOk; omega); unfold rIn at q; rw [← List.set_set (a := oI 1014 (spFills g a (x / 1000 % 1000) (x % 1000) (x / 1000000)))] at q; exact q)
              · refine wp_iconst dX7_restores_98 ?_
                exact wp_zret dX7_restores_99 rfl (Or.inl rfl) (hQ0 (by unfold rOk; omega))
          · refine wp_iload dX7_restores_66 rfl ?_
            refine wp_if_eq 100 dX7_restores_68 rfl (by first | assumption | exact hR _ | exact bI_r _ | (unfold r32; omega)) (fun c68 => ?_) (fun c68 => ?_)
            · refine wp_aload_n dX7_restores_100 rfl ?_
              refine wp_iload_n dX7_restores_101 rfl ?_
              refine wp_lload dX7_restores_102 rfl ?_
              refine wp_l2i dX7_restores_104 ?_
              refine wp_iload dX7_restores_105 rfl ?_
              refine wp_iload dX7_restores_107 rfl ?_
              refine wp_iv4 dX7_restores_109 VX7_fills lX7_140 m51 (rq0 rfl rfl) (Nat.le_of_ble_eq_true rfl) (sa_of m52 (C_fills (sa_mk (by decide) m51 rfl m52) hI.bd (by omega) ha (by omega) hB0 n0 (by omega) ?_))
              dsimp only [pushR]
              refine wp_aload_n dX7_restores_112 rfl ?_
              refine wp_getf dX7_restores_113 fX7_9 (gs_ne (by decide) m51) rfl ?_
              refine wp_bipush dX7_restores_116 rfl ?_
              refine wp_dup2 dX7_restores_118 rfl rfl ?_
              refine wp_iav (v := (spFills g a ((x / 1000) % 1000) (x % 1000) (x / 1000000)) 20) dX7_restores_119 (gs_eq (gs_lt m52)) (by decide) (by omega) rfl ?_
              refine wp_iconst dX7_restores_120 ?_
              refine wp_iadd dX7_restores_121 ?_
              refine wp_isv dX7_restores_122 (gs_eq (gs_lt m52)) (by decide) (by omega) ?_
              refine wp_iconst dX7_restores_123 ?_
              exact wp_zret dX7_restores_124 rfl (Or.inr rfl) (by have q := hQ (by unfold rOk; omega); unfold rIn at q; rw [← List.set_set (a := oI 1014 (spFills g a (x / 1000 % 1000) (x % 1000) (x / 1000000)))] at q; exact q)
            · refine wp_goto 98 dX7_restores_71 rfl ?_
              refine wp_iconst dX7_restores_98 ?_
              exact wp_zret dX7_restores_99 rfl (Or.inl rfl) (hQ0 (by unfold rOk; omega))
        · refine wp_iconst dX7_restores_54 ?_
          exact wp_zret dX7_restores_55 rfl (Or.inl rfl) (hQ0 (by unfold rOk; omega))
end RS
