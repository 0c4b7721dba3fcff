/-! the class' World: what comes and gives way, dues, outdated ones, copies; bounds that acts keep -/
section WC
variable {X : XS} {h : AH} {Q : Option AV → AH → Prop} {p q : Nat} {g : Int → Int} {B : Int}
theorem bc10_b {x : Int} (h : 0 ≤ x ∧ x < 1024) : 0 ≤ bc10 x ∧ bc10 x ≤ 10 := by unfold bc10; omega
theorem wEkL_b {a : Int} : ∀ (m : Nat) (k n : Int), k + m = 10 → 0 ≤ k → 0 ≤ n ∧ n < pw k → 0 ≤ wEkL g a m k n ∧ wEkL g a m k n < 1024 := by
  intro m
  induction m with
  | zero =>
    intro k n h1 h2 h3
    obtain rfl : k = 10 := by omega
    exact ⟨h3.1, h3.2⟩
  | succ m ih =>
    intro k n h1 h2 h3
    have hp := pw_s h2
    unfold wEkL
    split <;> exact ih _ _ (by omega) (by omega) (by omega)
theorem wEk_b (g : Int → Int) (a : Int) : 0 ≤ wEk g a ∧ wEk g a < 1024 := wEkL_b 10 0 0 (by omega) (by omega) ⟨by omega, by decide⟩
theorem iw_fin {a k v n : Int} (hI : IW B g) (ha : 0 ≤ a ∧ a < 6) (hk : 0 ≤ k ∧ k < 10) (hv : 0 ≤ v ∧ v < 1000) (hn : 0 ≤ n ∧ n ≤ 60) : IW (B + 1000 + B) (finW g a k v n) := by
  have q0 := hI.b 0
  have q4 := hI.b 4
  have q14 := hI.b 14
  unfold finW
  exact (((((((hI.up (by omega)).wr (by unfold CellW sA; omega)).wr (by unfold CellW sA; omega)).wr (by unfold CellW sA; omega)).wr (by unfold CellW sA; omega)).wr (by unfold CellW sA; omega)).wr (by unfold CellW sA; omega)).wr (by unfold CellW; omega)
def wIns0 (g : Int → Int) (a k : Int) : Int → Int := ud (ud (ud g (sA a k + 10) 0) (sA a k + 7) 0) (sA a k + 5) 0
def wIns (g : Int → Int) (a k v n t : Int) : Int → Int := finW (evW a t 11 (wIns0 g a k) (bc10 (wEk (wIns0 g a k) a)) ) a k v n
theorem iw_ins0 {a k : Int} (hI : IW B g) (ha : 0 ≤ a ∧ a < 6) (hk : 0 ≤ k ∧ k < 10) : IW B (wIns0 g a k) := by
  have q0 := hI.b 0
  unfold wIns0
  exact ((hI.wr (by unfold CellW sA; omega)).wr (by unfold CellW sA; omega)).wr (by unfold CellW sA; omega)
theorem ins0_at {a k j : Int} (ha : 0 ≤ a ∧ a < 6) (hk : 0 ≤ k ∧ k < 10) (h : j < 340) : wIns0 g a k j = g j := by
  have hb := sA_b ha hk
  unfold wIns0
  rw [ud_ne (by omega), ud_ne (by omega), ud_ne (by omega)]
theorem evW_at {a t j : Int} (ha : 0 ≤ a ∧ a < 6) (h : j < 340) (h2 : j ≠ 17) : ∀ (m : Nat) (g : Int → Int) (l : Int), evW a t m g l j = g j := by
  intro m
  induction m with
  | zero => intro g l; rfl
  | succ m ih =>
    intro g l
    have hb := wLk_b g a t
    unfold evW
    split
    · rfl
    · split
      · exact ih _ _
      · rename_i c1 c2
        have hb1 := sA_b (k := wLk g a t) ha (by omega)
        rw [ih, ud_ne h2, ud_ne (by omega)]
theorem iw_ev {a t : Int} (ha : 0 ≤ a ∧ a < 6) : ∀ (m : Nat) (g : Int → Int) (l B : Int), IW B g → IW (B + m) (evW a t m g l) := by
  intro m
  induction m with
  | zero => intro g l B hI; exact hI.up (by omega)
  | succ m ih =>
    intro g l B hI
    have hb := wLk_b g a t
    have q0 := hI.b 0
    have q17 := hI.b 17
    unfold evW
    split
    · exact hI.up (by omega)
    · split
      · exact (ih _ _ B hI).up (by omega)
      · rename_i c1 c2
        have hb1 := sA_b (k := wLk g a t) ha (by omega)
        exact (ih _ _ (B + 1) (((hI.up (show B ≤ B + 1 by omega)).wr (by unfold CellW sA; omega)).wr (by unfold CellW; omega))).up (by omega)
theorem iw_ins {a k v n t : Int} (hI : IW B g) (ha : 0 ≤ a ∧ a < 6) (hk : 0 ≤ k ∧ k < 10) (hv : 0 ≤ v ∧ v < 1000) (hn : 0 ≤ n ∧ n ≤ 60) (h4 : g 4 ≤ 100) : IW (B + 2000) (wIns g a k v n t) := by
  have e := iw_ev (t := t) ha 11 _ (bc10 (wEk (wIns0 g a k) a)) B (iw_ins0 hI ha hk)
  unfold wIns
  generalize hG : evW a t 11 (wIns0 g a k) (bc10 (wEk (wIns0 g a k) a)) = G at e ⊢
  have q0 := e.b 0
  have q14 := e.b 14
  have q4 : G 4 = g 4 := by rw [← hG, evW_at ha (by omega) (by omega), ins0_at ha hk (by omega)]
  have q4b := e.b 4
  have qB := hI.b 0
  unfold finW
  exact (((((((e.up (show B + ((11 : Nat) : Int) ≤ B + 2000 by omega)).wr (by unfold CellW sA; omega)).wr (by unfold CellW sA; omega)).wr (by unfold CellW sA; omega)).wr (by unfold CellW sA; omega)).wr (by unfold CellW sA; omega)).wr (by unfold CellW sA; omega)).wr (by unfold CellW; omega)
set_option maxHeartbeats 2000000 in
theorem C_winstall {a k v n t : Int} (hS : SA 5 p q h) (hI : IW B g) (hBB : B + 40000 ≤ 1000000000) (ha : 0 ≤ a ∧ a < 6) (hk : 0 ≤ k ∧ k < 10) (ht : 0 ≤ t ∧ t < 4) (hQ : Q none (h.set q (oI 1060 (wIns g a k v n t)))) : Cl X kX5_install [vR p, vI a, vI k, vI v, vI n, vI t] (h.set q (oI 1060 g)) Q := by
  refine cl_of rfl (Nat.le_of_ble_eq_true rfl) rfl ?_
  have hR := hI.r (by omega)
  have hb1 := sA_b ha hk
  refine wp_iload_n dX5_install_0 rfl ?_
  refine wp_iload_n dX5_install_1 rfl ?_
  refine wp_is2 dX5_install_2 SX5_spotAt lX5_31 (rq0 rfl rfl) (Nat.le_of_ble_eq_true rfl) (C_wspotAt ?_)
  dsimp only [pushR]
  refine wp_istore (L' := [some (vR p), some (vI a), some (vI k), some (vI v), some (vI n), some (vI t), some (vI (sA a k)), none, none]) dX5_install_5 (by decide) rfl ?_
  refine wp_aload_n dX5_install_7 rfl ?_
  refine sa_get hS dX5_install_8 fX5_11 ?_
  refine wp_iload dX5_install_11 rfl ?_
  refine wp_bipush dX5_install_13 rfl ?_
  refine wp_iadd dX5_install_15 ?_
  refine wp_iconst dX5_install_16 ?_
  refine sa_st hS dX5_install_17 (by decide) (by omega) ?_
  refine wp_aload_n dX5_install_18 rfl ?_
  refine sa_get hS dX5_install_19 fX5_11 ?_
  refine wp_iload dX5_install_22 rfl ?_
  refine wp_bipush dX5_install_24 rfl ?_
  refine wp_iadd dX5_install_26 ?_
  refine wp_iconst dX5_install_27 ?_
  refine sa_st hS dX5_install_28 (by decide) (by omega) ?_
  refine wp_aload_n dX5_install_29 rfl ?_
  refine sa_get hS dX5_install_30 fX5_11 ?_
  refine wp_iload dX5_install_33 rfl ?_
  refine wp_iconst dX5_install_35 ?_
  refine wp_iadd dX5_install_36 ?_
  refine wp_iconst dX5_install_37 ?_
  refine sa_st hS dX5_install_38 (by decide) (by omega) ?_
  refine wp_aload_n dX5_install_39 rfl ?_
  refine wp_iload_n dX5_install_40 rfl ?_
  refine sa_i1 hS dX5_install_41 VX5_entryKeys lX5_124 (rq0 rfl rfl) (Nat.le_of_ble_eq_true rfl) (C_wentryKeys hS ((((hI.up (show B ≤ B + 1000 by omega)).wr (by have qB := hI.b 0;  first | (unfold CellW; omega) | (unfold CellW sA; omega) | (unfold CellW cA; omega) | (unfold CellW jA; omega))).wr (by have qB := hI.b 0;  first | (unfold CellW; omega) | (unfold CellW sA; omega) | (unfold CellW cA; omega) | (unfold CellW jA; omega))).wr (by have qB := hI.b 0;  first | (unfold CellW; omega) | (unfold CellW sA; omega) | (unfold CellW cA; omega) | (unfold CellW jA; omega))) (by omega) (by omega) ?_)
  dsimp only [pushR]
  refine wp_is1 dX5_install_44 SJ6_bitCount_0f7a4 lX5_127 (rq0 rfl rfl) (Nat.le_of_ble_eq_true rfl) (C_bitCount (wEk_b _ _) ?_)
  dsimp only [pushR]
  refine wp_istore (L' := [some (vR p), some (vI a), some (vI k), some (vI v), some (vI n), some (vI t), some (vI (sA a k)), some (vI (bc10 (wEk (ud (ud (ud g (sA a k + 10) 0) (sA a k + 7) 0) (sA a k + 5) 0) a))), none]) dX5_install_47 (by decide) rfl ?_
  exact lp_evW hS ha hk ht 11 (wIns0 g a k) B _ (by have := bc10_b (wEk_b (wIns0 g a k) a); constructor; exact Int.add_le_add_right this.2 1; have h1 := this.1; have h2 := this.2; constructor <;> (show _ ≤ _) <;> first | exact Int.le_trans (by decide) h1 | exact Int.le_trans h2 (by decide)) (iw_ins0 hI ha hk) (by omega) (by rw [ins0_at ha hk (by omega)]; exact (hI.b 3).1) (by have := bc10_b (wEk_b (wIns0 g a k) a); exact Int.le_trans (by decide) this.1) hQ
def wFill (g : Int → Int) (c : Int) : Int × (Int → Int) := if g (cA c + 3) = 0 then ((-5), g) else if g (cA c + 6) = 1 then if g 0 < g (sA (g (cA c + 0)) (g (cA c + 1)) + 11) then (0, (ud (ud (ud g (cA c + 7) 0) (cA c + 3) 0) 15 (g 15 + 1))) else if wVo (ud (ud g (cA c + 7) 0) (cA c + 3) 0) (sA (g (cA c + 0)) (g (cA c + 1))) (g (cA c + 2)) = 0 then (1, wIns (ud (ud g (cA c + 7) 0) (cA c + 3) 0) (g (cA c + 0)) (g (cA c + 1)) (g (cA c + 4)) (g (cA c + 5)) (g 8)) else (0, (ud (ud (ud g (cA c + 7) 0) (cA c + 3) 0) 15 (g 15 + 1))) else if wVo (ud (ud g (cA c + 7) 0) (cA c + 3) 0) (sA (g (cA c + 0)) (g (cA c + 1))) (g (cA c + 2)) = 0 then (1, wIns (ud (ud g (cA c + 7) 0) (cA c + 3) 0) (g (cA c + 0)) (g (cA c + 1)) (g (cA c + 4)) (g (cA c + 5)) (g 8)) else (0, (ud (ud (ud g (cA c + 7) 0) (cA c + 3) 0) 15 (g 15 + 1)))
set_option maxHeartbeats 2000000 in
theorem C_wbringIn {c : Int} (hS : SA 5 p q h) (hI : IW B g) (hBB : B + 60000 ≤ 1000000000) (hc : 0 ≤ c ∧ c < 6) (h8 : g 8 ≤ 3) (hQ : Q (some (vI (wFill g c).1)) (h.set q (oI 1060 (wFill g c).2))) : Cl X kX5_bringIn [vR p, vI c] (h.set q (oI 1060 g)) Q := by
  refine cl_of rfl (Nat.le_of_ble_eq_true rfl) rfl ?_
  have hR := hI.r (by omega)
  have hb1 := cA_b hc
  have hcg := hI.cg hc
  have hck := hI.ck hc
  have hb2 := sA_b hcg hck
  have q8 := hI.b 8
  refine wp_iload_n dX5_bringIn_0 rfl ?_
  refine wp_is1 dX5_bringIn_1 SX5_handAt lX5_24 (rq0 rfl rfl) (Nat.le_of_ble_eq_true rfl) (C_whandAt ?_)
  dsimp only [pushR]
  refine wp_istore_n (L' := [some (vR p), some (vI c), some (vI (cA c)), none, none, none]) dX5_bringIn_4 (by decide) rfl ?_
  refine wp_aload_n dX5_bringIn_5 rfl ?_
  refine sa_get hS dX5_bringIn_6 fX5_11 ?_
  refine wp_iload_n dX5_bringIn_9 rfl ?_
  refine wp_iconst dX5_bringIn_10 ?_
  refine wp_iadd dX5_bringIn_11 ?_
  refine sa_ld (v := g (cA c + 3)) hS dX5_bringIn_12 (by decide) (by omega) rfl ?_
  refine wp_if_ne 19 dX5_bringIn_13 rfl (by first | assumption | exact hR _ | exact hR2 _ | exact bI_r _ | (unfold r32; omega)) (fun c13 => ?_) (fun c13 => ?_)
  · refine wp_aload_n dX5_bringIn_19 rfl ?_
    refine sa_get hS dX5_bringIn_20 fX5_11 ?_
    refine wp_iload_n dX5_bringIn_23 rfl ?_
    refine wp_iconst dX5_bringIn_24 ?_
    refine wp_iadd dX5_bringIn_25 ?_
    refine sa_ld (v := g (cA c + 1)) hS dX5_bringIn_26 (by decide) (by omega) rfl ?_
    refine wp_istore_n (L' := [some (vR p), some (vI c), some (vI (cA c)), some (vI (g (cA c + 1))), none, none]) dX5_bringIn_27 (by decide) rfl ?_
    refine wp_aload_n dX5_bringIn_28 rfl ?_
    refine sa_get hS dX5_bringIn_29 fX5_11 ?_
    refine wp_iload_n dX5_bringIn_32 rfl ?_
    refine wp_iconst dX5_bringIn_33 ?_
    refine wp_iadd dX5_bringIn_34 ?_
    refine sa_ld (v := g (cA c + 0)) hS dX5_bringIn_35 (by decide) (by omega) rfl ?_
    refine wp_iload_n dX5_bringIn_36 rfl ?_
    refine wp_is2 dX5_bringIn_37 SX5_spotAt lX5_31 (rq0 rfl rfl) (Nat.le_of_ble_eq_true rfl) (C_wspotAt ?_)
    dsimp only [pushR]
    refine wp_istore (L' := [some (vR p), some (vI c), some (vI (cA c)), some (vI (g (cA c + 1))), some (vI (sA (g (cA c + 0)) (g (cA c + 1)))), none]) dX5_bringIn_40 (by decide) rfl ?_
    refine wp_aload_n dX5_bringIn_42 rfl ?_
    refine wp_iload_n dX5_bringIn_43 rfl ?_
    refine sa_i1 hS dX5_bringIn_44 VX5_endHand lX5_114 (rq0 rfl rfl) (Nat.le_of_ble_eq_true rfl) (C_wendHand  hS (by omega)  ?_)
    dsimp only [pushR]
    refine wp_aload_n dX5_bringIn_47 rfl ?_
    refine sa_get hS dX5_bringIn_48 fX5_11 ?_
    refine wp_iload_n dX5_bringIn_51 rfl ?_
    refine wp_bipush dX5_bringIn_52 rfl ?_
    refine wp_iadd dX5_bringIn_54 ?_
    refine sa_ld (v := g (cA c + 6)) hS dX5_bringIn_55 (by decide) (by omega) (by rw [ud_ne (by omega), ud_ne (by omega)] <;> rfl) ?_
    refine wp_iconst dX5_bringIn_56 ?_
    refine wp_icmp_ne 76 dX5_bringIn_57 rfl (by first | assumption | exact hR _ | exact hR2 _ | exact bI_r _ | (unfold r32; omega)) ⟨by omega, by omega⟩ (fun c57 => ?_) (fun c57 => ?_)
    · refine wp_iconst dX5_bringIn_76 ?_
      refine wp_istore (L' := [some (vR p), some (vI c), some (vI (cA c)), some (vI (g (cA c + 1))), some (vI (sA (g (cA c + 0)) (g (cA c + 1)))), some (vI 0)]) dX5_bringIn_77 (by decide) rfl ?_
      refine wp_iload dX5_bringIn_79 rfl ?_
      refine wp_if_ne 101 dX5_bringIn_81 rfl ⟨by omega, by omega⟩ (fun c81 => absurd c81 (by omega)) (fun c81 => ?_)
      refine wp_aload_n dX5_bringIn_84 rfl ?_
      refine wp_iload dX5_bringIn_85 rfl ?_
      refine wp_aload_n dX5_bringIn_87 rfl ?_
      refine sa_get hS dX5_bringIn_88 fX5_11 ?_
      refine wp_iload_n dX5_bringIn_91 rfl ?_
      refine wp_iconst dX5_bringIn_92 ?_
      refine wp_iadd dX5_bringIn_93 ?_
      refine sa_ld (v := g (cA c + 2)) hS dX5_bringIn_94 (by decide) (by omega) (by rw [ud_ne (by omega), ud_ne (by omega)] <;> rfl) ?_
      refine sa_i2 hS dX5_bringIn_95 VX5_isVoid lX5_117 (rq0 rfl rfl) (Nat.le_of_ble_eq_true rfl) (C_wisVoid hS (((hI.up (show B ≤ B + 1000 by omega)).wr (by have qB := hI.b 0;  first | (unfold CellW; omega) | (unfold CellW sA; omega) | (unfold CellW cA; omega) | (unfold CellW jA; omega))).wr (by have qB := hI.b 0;  first | (unfold CellW; omega) | (unfold CellW sA; omega) | (unfold CellW cA; omega) | (unfold CellW jA; omega))) (by omega) (by omega) (by first | assumption | exact hR _ | exact hR2 _ | exact bI_r _ | (unfold r32; omega)) ?_)
      dsimp only [pushR]
      refine wp_if_eq 114 dX5_bringIn_98 rfl (r01 (wVo_01 _ _ _)) (fun c98 => ?_) (fun c98 => ?_)
      · refine wp_aload_n dX5_bringIn_114 rfl ?_
        refine wp_aload_n dX5_bringIn_115 rfl ?_
        refine sa_get hS dX5_bringIn_116 fX5_11 ?_
        refine wp_iload_n dX5_bringIn_119 rfl ?_
        refine wp_iconst dX5_bringIn_120 ?_
        refine wp_iadd dX5_bringIn_121 ?_
        refine sa_ld (v := g (cA c + 0)) hS dX5_bringIn_122 (by decide) (by omega) (by rw [ud_ne (by omega), ud_ne (by omega)] <;> rfl) ?_
        refine wp_iload_n dX5_bringIn_123 rfl ?_
        refine wp_aload_n dX5_bringIn_124 rfl ?_
        refine sa_get hS dX5_bringIn_125 fX5_11 ?_
        refine wp_iload_n dX5_bringIn_128 rfl ?_
        refine wp_iconst dX5_bringIn_129 ?_
        refine wp_iadd dX5_bringIn_130 ?_
        refine sa_ld (v := g (cA c + 4)) hS dX5_bringIn_131 (by decide) (by omega) (by rw [ud_ne (by omega), ud_ne (by omega)] <;> rfl) ?_
        refine wp_aload_n dX5_bringIn_132 rfl ?_
        refine sa_get hS dX5_bringIn_133 fX5_11 ?_
        refine wp_iload_n dX5_bringIn_136 rfl ?_
        refine wp_iconst dX5_bringIn_137 ?_
        refine wp_iadd dX5_bringIn_138 ?_
        refine sa_ld (v := g (cA c + 5)) hS dX5_bringIn_139 (by decide) (by omega) (by rw [ud_ne (by omega), ud_ne (by omega)] <;> rfl) ?_
        refine wp_aload_n dX5_bringIn_140 rfl ?_
        refine wp_iconst dX5_bringIn_141 ?_
        refine sa_i1 hS dX5_bringIn_142 VX5_settingOf lX5_78 (rq0 rfl rfl) (Nat.le_of_ble_eq_true rfl) (C_wsettingOf (v := g 8) hS (by omega) (by rw [ud_ne (by omega), ud_ne (by omega)] <;> rfl) ?_)
        dsimp only [pushR]
        refine sa_i5 hS dX5_bringIn_145 VX5_install lX5_120 (rq0 rfl rfl) (Nat.le_of_ble_eq_true rfl) (C_winstall hS (((hI.up (show B ≤ B + 1000 by omega)).wr (by have qB := hI.b 0;  first | (unfold CellW; omega) | (unfold CellW sA; omega) | (unfold CellW cA; omega) | (unfold CellW jA; omega))).wr (by have qB := hI.b 0;  first | (unfold CellW; omega) | (unfold CellW sA; omega) | (unfold CellW cA; omega) | (unfold CellW jA; omega))) (by omega) (by omega) (by omega) (by omega) ?_)
        dsimp only [pushR]
        refine wp_iconst dX5_bringIn_148 ?_
        exact wp_iret dX5_bringIn_149 rfl (by have e : wFill g c = _ := (if_neg c13).trans ((if_neg c57).trans (if_pos c98)); rw [e] at hQ; exact hQ)
      · refine wp_aload_n dX5_bringIn_101 rfl ?_
        refine sa_get hS dX5_bringIn_102 fX5_11 ?_
        refine wp_bipush dX5_bringIn_105 rfl ?_
        refine wp_dup2 dX5_bringIn_107 rfl rfl ?_
        refine sa_ld (v := g 15) hS dX5_bringIn_108 (by decide) (by omega) (by rw [ud_ne (by omega), ud_ne (by omega)] <;> rfl) ?_
        refine wp_iconst dX5_bringIn_109 ?_
        refine wp_iadd dX5_bringIn_110 ?_
        refine sa_st hS dX5_bringIn_111 (by decide) (by omega) ?_
        refine wp_iconst dX5_bringIn_112 ?_
        exact wp_iret dX5_bringIn_113 rfl (by have e : wFill g c = _ := (if_neg c13).trans ((if_neg c57).trans (if_neg c98)); rw [e] at hQ; exact hQ)
    · refine wp_aload_n dX5_bringIn_60 rfl ?_
      refine wp_iload dX5_bringIn_61 rfl ?_
      refine wp_bipush dX5_bringIn_63 rfl ?_
      refine wp_iadd dX5_bringIn_65 ?_
      refine sa_i1 hS dX5_bringIn_66 VX5_isAhead lX5_35 (rq0 rfl rfl) (Nat.le_of_ble_eq_true rfl) (C_wisAhead (v0 := g 0) (v1 := g (sA (g (cA c + 0)) (g (cA c + 1)) + 11)) hS (by omega) (by rw [ud_ne (by omega), ud_ne (by omega)] <;> rfl) (by rw [ud_ne (by omega), ud_ne (by omega)] <;> rfl) (by first | assumption | exact hR _ | exact hR2 _ | exact bI_r _ | (unfold r32; omega)) (by first | assumption | exact hR _ | exact hR2 _ | exact bI_r _ | (unfold r32; omega)) ?_)
      dsimp only [pushR]
      refine wp_beq 76 dX5_bringIn_69 rfl (fun c69 => ?_) (fun c69 => ?_)
      · refine wp_iconst dX5_bringIn_76 ?_
        refine wp_istore (L' := [some (vR p), some (vI c), some (vI (cA c)), some (vI (g (cA c + 1))), some (vI (sA (g (cA c + 0)) (g (cA c + 1)))), some (vI 0)]) dX5_bringIn_77 (by decide) rfl ?_
        refine wp_iload dX5_bringIn_79 rfl ?_
        refine wp_if_ne 101 dX5_bringIn_81 rfl ⟨by omega, by omega⟩ (fun c81 => absurd c81 (by omega)) (fun c81 => ?_)
        refine wp_aload_n dX5_bringIn_84 rfl ?_
        refine wp_iload dX5_bringIn_85 rfl ?_
        refine wp_aload_n dX5_bringIn_87 rfl ?_
        refine sa_get hS dX5_bringIn_88 fX5_11 ?_
        refine wp_iload_n dX5_bringIn_91 rfl ?_
        refine wp_iconst dX5_bringIn_92 ?_
        refine wp_iadd dX5_bringIn_93 ?_
        refine sa_ld (v := g (cA c + 2)) hS dX5_bringIn_94 (by decide) (by omega) (by rw [ud_ne (by omega), ud_ne (by omega)] <;> rfl) ?_
        refine sa_i2 hS dX5_bringIn_95 VX5_isVoid lX5_117 (rq0 rfl rfl) (Nat.le_of_ble_eq_true rfl) (C_wisVoid hS (((hI.up (show B ≤ B + 1000 by omega)).wr (by have qB := hI.b 0;  first | (unfold CellW; omega) | (unfold CellW sA; omega) | (unfold CellW cA; omega) | (unfold CellW jA; omega))).wr (by have qB := hI.b 0;  first | (unfold CellW; omega) | (unfold CellW sA; omega) | (unfold CellW cA; omega) | (unfold CellW jA; omega))) (by omega) (by omega) (by first | assumption | exact hR _ | exact hR2 _ | exact bI_r _ | (unfold r32; omega)) ?_)
        dsimp only [pushR]
        refine wp_if_eq 114 dX5_bringIn_98 rfl (r01 (wVo_01 _ _ _)) (fun c98 => ?_) (fun c98 => ?_)
        · refine wp_aload_n dX5_bringIn_114 rfl ?_
          refine wp_aload_n dX5_bringIn_115 rfl ?_
          refine sa_get hS dX5_bringIn_116 fX5_11 ?_
          refine wp_iload_n dX5_bringIn_119 rfl ?_
          refine wp_iconst dX5_bringIn_120 ?_
          refine wp_iadd dX5_bringIn_121 ?_
          refine sa_ld (v := g (cA c + 0)) hS dX5_bringIn_122 (by decide) (by omega) (by rw [ud_ne (by omega), ud_ne (by omega)] <;> rfl) ?_
          refine wp_iload_n dX5_bringIn_123 rfl ?_
          refine wp_aload_n dX5_bringIn_124 rfl ?_
          refine sa_get hS dX5_bringIn_125 fX5_11 ?_
          refine wp_iload_n dX5_bringIn_128 rfl ?_
          refine wp_iconst dX5_bringIn_129 ?_
          refine wp_iadd dX5_bringIn_130 ?_
          refine sa_ld (v := g (cA c + 4)) hS dX5_bringIn_131 (by decide) (by omega) (by rw [ud_ne (by omega), ud_ne (by omega)] <;> rfl) ?_
          refine wp_aload_n dX5_bringIn_132 rfl ?_
          refine sa_get hS dX5_bringIn_133 fX5_11 ?_
          refine wp_iload_n dX5_bringIn_136 rfl ?_
          refine wp_iconst dX5_bringIn_137 ?_
          refine wp_iadd dX5_bringIn_138 ?_
          refine sa_ld (v := g (cA c + 5)) hS dX5_bringIn_139 (by decide) (by omega) (by rw [ud_ne (by omega), ud_ne (by omega)] <;> rfl) ?_
          refine wp_aload_n dX5_bringIn_140 rfl ?_
          refine wp_iconst dX5_bringIn_141 ?_
          refine sa_i1 hS dX5_bringIn_142 VX5_settingOf lX5_78 (rq0 rfl rfl) (Nat.le_of_ble_eq_true rfl) (C_wsettingOf (v := g 8) hS (by omega) (by rw [ud_ne (by omega), ud_ne (by omega)] <;> rfl) ?_)
          dsimp only [pushR]
          refine sa_i5 hS dX5_bringIn_145 VX5_install lX5_120 (rq0 rfl rfl) (Nat.le_of_ble_eq_true rfl) (C_winstall hS (((hI.up (show B ≤ B + 1000 by omega)).wr (by have qB := hI.b 0;  first | (unfold CellW; omega) | (unfold CellW sA; omega) | (unfold CellW cA; omega) | (unfold CellW jA; omega))).wr (by have qB := hI.b 0;  first | (unfold CellW; omega) | (unfold CellW sA; omega) | (unfold CellW cA; omega) | (unfold CellW jA; omega))) (by omega) (by omega) (by omega) (by omega) ?_)
          dsimp only [pushR]
          refine wp_iconst dX5_bringIn_148 ?_
          exact wp_iret dX5_bringIn_149 rfl (by have e : wFill g c = _ := (if_neg c13).trans ((if_pos c57).trans ((if_neg c69).trans (if_pos c98))); rw [e] at hQ; exact hQ)
        · refine wp_aload_n dX5_bringIn_101 rfl ?_
          refine sa_get hS dX5_bringIn_102 fX5_11 ?_
          refine wp_bipush dX5_bringIn_105 rfl ?_
          refine wp_dup2 dX5_bringIn_107 rfl rfl ?_
          refine sa_ld (v := g 15) hS dX5_bringIn_108 (by decide) (by omega) (by rw [ud_ne (by omega), ud_ne (by omega)] <;> rfl) ?_
          refine wp_iconst dX5_bringIn_109 ?_
          refine wp_iadd dX5_bringIn_110 ?_
          refine sa_st hS dX5_bringIn_111 (by decide) (by omega) ?_
          refine wp_iconst dX5_bringIn_112 ?_
          exact wp_iret dX5_bringIn_113 rfl (by have e : wFill g c = _ := (if_neg c13).trans ((if_pos c57).trans ((if_neg c69).trans (if_neg c98))); rw [e] at hQ; exact hQ)
      · refine wp_iconst dX5_bringIn_72 ?_
        refine wp_goto 77 dX5_bringIn_73 rfl ?_
        refine wp_istore (L' := [some (vR p), some (vI c), some (vI (cA c)), some (vI (g (cA c + 1))), some (vI (sA (g (cA c + 0)) (g (cA c + 1)))), some (vI 1)]) dX5_bringIn_77 (by decide) rfl ?_
        refine wp_iload dX5_bringIn_79 rfl ?_
        refine wp_if_ne 101 dX5_bringIn_81 rfl ⟨by omega, by omega⟩ (fun c81 => ?_) (fun c81 => absurd c81 (by omega))
        refine wp_aload_n dX5_bringIn_101 rfl ?_
        refine sa_get hS dX5_bringIn_102 fX5_11 ?_
        refine wp_bipush dX5_bringIn_105 rfl ?_
        refine wp_dup2 dX5_bringIn_107 rfl rfl ?_
        refine sa_ld (v := g 15) hS dX5_bringIn_108 (by decide) (by omega) (by rw [ud_ne (by omega), ud_ne (by omega)] <;> rfl) ?_
        refine wp_iconst dX5_bringIn_109 ?_
        refine wp_iadd dX5_bringIn_110 ?_
        refine sa_st hS dX5_bringIn_111 (by decide) (by omega) ?_
        refine wp_iconst dX5_bringIn_112 ?_
        exact wp_iret dX5_bringIn_113 rfl (by have e : wFill g c = _ := (if_neg c13).trans ((if_pos c57).trans (if_pos c69)); rw [e] at hQ; exact hQ)
  · refine wp_bipush dX5_bringIn_16 rfl ?_
    exact wp_iret dX5_bringIn_18 rfl (by have e : wFill g c = _ := if_pos c13; rw [e] at hQ; exact hQ)
def wTry (g : Int → Int) (a k t : Int) : Int × (Int → Int) := if g 0 < g (sA a k + 5) then (1, (ud (ud g ((sA a k) + 3) (g 0)) ((sA a k) + 4) ((g ((sA a k) + 4)) + 1))) else (0, wIns g a k (wVal g (wSv g (a / 2) k)) (wSv g (a / 2) k) t)
set_option maxHeartbeats 2000000 in
theorem C_wtryKey {a k t : Int} (hS : SA 5 p q h) (hI : IW B g) (hBB : B + 40000 ≤ 1000000000) (ha : 0 ≤ a ∧ a < 6) (hk : 0 ≤ k ∧ k < 10) (ht : 0 ≤ t ∧ t < 4) (hQ : Q (some (vI (wTry g a k t).1)) (h.set q (oI 1060 (wTry g a k t).2))) : Cl X kX5_tryKey [vR p, vI a, vI k, vI t] (h.set q (oI 1060 g)) Q := by
  refine cl_of rfl (Nat.le_of_ble_eq_true rfl) rfl ?_
  have hR := hI.r (by omega)
  have hb1 := sA_b ha hk
  refine wp_aload_n dX5_tryKey_0 rfl ?_
  refine wp_iload_n dX5_tryKey_1 rfl ?_
  refine wp_iload_n dX5_tryKey_2 rfl ?_
  refine sa_i2 hS dX5_tryKey_3 VX5_hasEntry lX5_97 (rq0 rfl rfl) (Nat.le_of_ble_eq_true rfl) (C_whasEntry (v0 := g 0) (v1 := g (sA a k + 5)) hS (by omega) (by omega) rfl rfl (by first | assumption | exact hR _ | exact hR2 _ | exact bI_r _ | (unfold r32; omega)) (by first | assumption | exact hR _ | exact hR2 _ | exact bI_r _ | (unfold r32; omega)) ?_)
  dsimp only [pushR]
  refine wp_beq 20 dX5_tryKey_6 rfl (fun c6 => ?_) (fun c6 => ?_)
  · refine wp_aload_n dX5_tryKey_20 rfl ?_
    refine wp_iload_n dX5_tryKey_21 rfl ?_
    refine wp_iconst dX5_tryKey_22 ?_
    refine wp_idivn dX5_tryKey_23 (by first | assumption | exact hR _ | exact hR2 _ | exact bI_r _ | (unfold r32; omega)) ⟨by omega, by omega⟩ (by omega) (by omega) ?_
    refine wp_iload_n dX5_tryKey_24 rfl ?_
    refine sa_i2 hS dX5_tryKey_25 VX5_storeVersion lX5_108 (rq0 rfl rfl) (Nat.le_of_ble_eq_true rfl) (C_wstoreVersion hS hI (by omega) (by omega) (by omega) ?_)
    dsimp only [pushR]
    refine wp_istore (L' := [some (vR p), some (vI a), some (vI k), some (vI t), some (vI (wSv g (a / 2) k))]) dX5_tryKey_28 (by decide) rfl ?_
    refine wp_aload_n dX5_tryKey_30 rfl ?_
    refine wp_iload_n dX5_tryKey_31 rfl ?_
    refine wp_iload_n dX5_tryKey_32 rfl ?_
    refine wp_aload_n dX5_tryKey_33 rfl ?_
    refine wp_iload dX5_tryKey_34 rfl ?_
    refine sa_i1 hS dX5_tryKey_36 VX5_valueOf lX5_111 (rq0 rfl rfl) (Nat.le_of_ble_eq_true rfl) (C_wvalueOf hS hI (by omega) (wSv_b hI (by omega) (by omega)) ?_)
    dsimp only [pushR]
    refine wp_iload dX5_tryKey_39 rfl ?_
    refine wp_iload_n dX5_tryKey_41 rfl ?_
    refine sa_i5 hS dX5_tryKey_42 VX5_install lX5_120 (rq0 rfl rfl) (Nat.le_of_ble_eq_true rfl) (C_winstall hS hI (by omega) (by omega) (by omega) (by omega) ?_)
    dsimp only [pushR]
    refine wp_iconst dX5_tryKey_45 ?_
    exact wp_zret dX5_tryKey_46 rfl (Or.inl rfl) (by have e : wTry g a k t = _ := if_neg c6; rw [e] at hQ; exact hQ)
  · refine wp_aload_n dX5_tryKey_9 rfl ?_
    refine wp_iload_n dX5_tryKey_10 rfl ?_
    refine wp_iload_n dX5_tryKey_11 rfl ?_
    refine wp_is2 dX5_tryKey_12 SX5_spotAt lX5_31 (rq0 rfl rfl) (Nat.le_of_ble_eq_true rfl) (C_wspotAt ?_)
    dsimp only [pushR]
    refine sa_i1 hS dX5_tryKey_15 VX5_useEntry lX5_74 (rq0 rfl rfl) (Nat.le_of_ble_eq_true rfl) (C_wuseEntry (v0 := g 0) (v1 := g ((sA a k) + 4)) hS (by omega) rfl rfl ?_)
    dsimp only [pushR]
    refine wp_iconst dX5_tryKey_18 ?_
    exact wp_zret dX5_tryKey_19 rfl (Or.inr rfl) (by have e : wTry g a k t = _ := if_pos c6; rw [e] at hQ; exact hQ)
def wOkL (g : Int → Int) (a y : Int) : Nat → Int → Int → Int → Int
  | 0, _, n, _ => n
  | m + 1, k, n, s => if g (y + k) ≤ g (s + 1) then wOkL g a y m (k + 1) n (s + 12) else if g 0 < g (s + 5) then wOkL g a y m (k + 1) (n + pw k) (s + 12) else wOkL g a y m (k + 1) n (s + 12)
set_option maxHeartbeats 2000000 in
theorem lp_wOkL {b : Nat × Nat} {a y : Int} (hS : SA 5 p q h) (hR : ∀ j, r32 (g j)) (ha : 0 ≤ a ∧ a < 6) (hy : y = 72 + a / 2 * 10) : ∀ (m : Nat) (k n s : Int), k + m = 10 → 0 ≤ k → (0 ≤ n ∧ n < pw k) → (s = sA a k) → Q (some (vI (wOkL g a y m k n s))) (h.set q (oI 1060 g)) → Wp X kX5_outdatedKeys 34 [some (vR p), some (vI a), some (vI y), some (vI s), some (vI n), some (vI k)] [] (h.set q (oI 1060 g)) b Q := by
  intro m
  induction m with
  | zero =>
    intro k n s h1 h3 h4 h5 hQ
    obtain rfl : k = 10 := by omega
    refine wp_iload dX5_outdatedKeys_34 rfl ?_
    refine wp_bipush dX5_outdatedKeys_36 rfl ?_
    refine wp_icmp_ge 89 dX5_outdatedKeys_38 rfl (by first | assumption | exact hR _ | exact hR2 _ | exact bI_r _ | (unfold r32; omega)) ⟨by omega, by omega⟩ (fun c38 => ?_) (fun c38 => ?_)
    · refine wp_iload dX5_outdatedKeys_89 rfl ?_
      exact wp_iret dX5_outdatedKeys_91 rfl (by have e : wOkL g a y 0 10 n s = _ := rfl; rw [e] at hQ; exact hQ)
    · omega
  | succ m ih =>
    intro k n s h1 h3 h4 h5 hQ
    have hb1 := sA_b (k := k) ha ⟨h3, by omega⟩
    refine wp_iload dX5_outdatedKeys_34 rfl ?_
    refine wp_bipush dX5_outdatedKeys_36 rfl ?_
    refine wp_icmp_ge 89 dX5_outdatedKeys_38 rfl (by first | assumption | exact hR _ | exact hR2 _ | exact bI_r _ | (unfold r32; omega)) ⟨by omega, by omega⟩ (fun c38 => ?_) (fun c38 => ?_)
    · omega
    · refine wp_aload_n dX5_outdatedKeys_41 rfl ?_
      refine sa_get hS dX5_outdatedKeys_42 fX5_11 ?_
      refine wp_iload_n dX5_outdatedKeys_45 rfl ?_
      refine wp_iconst dX5_outdatedKeys_46 ?_
      refine wp_iadd dX5_outdatedKeys_47 ?_
      refine sa_ld (v := g (s + 1)) hS dX5_outdatedKeys_48 (by decide) (by omega) rfl ?_
      refine wp_aload_n dX5_outdatedKeys_49 rfl ?_
      refine sa_get hS dX5_outdatedKeys_50 fX5_11 ?_
      refine wp_iload_n dX5_outdatedKeys_53 rfl ?_
      refine wp_iload dX5_outdatedKeys_54 rfl ?_
      refine wp_iadd dX5_outdatedKeys_56 ?_
      refine sa_ld (v := g (y + k)) hS dX5_outdatedKeys_57 (by decide) (by omega) rfl ?_
      refine wp_icmp_ge 80 dX5_outdatedKeys_58 rfl (by first | assumption | exact hR _ | exact hR2 _ | exact bI_r _ | (unfold r32; omega)) (by first | assumption | exact hR _ | exact hR2 _ | exact bI_r _ | (unfold r32; omega)) (fun c58 => ?_) (fun c58 => ?_)
      · refine wp_iinc (L' := [some (vR p), some (vI a), some (vI y), some (vI (s + 12)), some (vI n), some (vI k)]) dX5_outdatedKeys_80 rfl rfl ?_
        refine wp_iinc (L' := [some (vR p), some (vI a), some (vI y), some (vI (s + 12)), some (vI n), some (vI (k + 1))]) dX5_outdatedKeys_83 rfl rfl ?_
        refine wp_goto 34 dX5_outdatedKeys_86 rfl ?_
        exact ih _ _ _ (by omega) (by omega) (by rw [pw_s h3]; omega) (by unfold sA at *; omega) (by have e : wOkL g a y (m + 1) k n s = _ := if_pos c58; rw [e] at hQ; exact hQ)
      · refine wp_aload_n dX5_outdatedKeys_61 rfl ?_
        refine wp_iload_n dX5_outdatedKeys_62 rfl ?_
        refine wp_iconst dX5_outdatedKeys_63 ?_
        refine wp_iadd dX5_outdatedKeys_64 ?_
        refine sa_i1 hS dX5_outdatedKeys_65 VX5_isAhead lX5_35 (rq0 rfl rfl) (Nat.le_of_ble_eq_true rfl) (C_wisAhead (v0 := g 0) (v1 := g (s + 5)) hS (by omega) rfl rfl (by first | assumption | exact hR _ | exact hR2 _ | exact bI_r _ | (unfold r32; omega)) (by first | assumption | exact hR _ | exact hR2 _ | exact bI_r _ | (unfold r32; omega)) ?_)
        dsimp only [pushR]
        refine wp_beq 80 dX5_outdatedKeys_68 rfl (fun c68 => ?_) (fun c68 => ?_)
        · refine wp_iinc (L' := [some (vR p), some (vI a), some (vI y), some (vI (s + 12)), some (vI n), some (vI k)]) dX5_outdatedKeys_80 rfl rfl ?_
          refine wp_iinc (L' := [some (vR p), some (vI a), some (vI y), some (vI (s + 12)), some (vI n), some (vI (k + 1))]) dX5_outdatedKeys_83 rfl rfl ?_
          refine wp_goto 34 dX5_outdatedKeys_86 rfl ?_
          exact ih _ _ _ (by omega) (by omega) (by rw [pw_s h3]; omega) (by unfold sA at *; omega) (by have e : wOkL g a y (m + 1) k n s = _ := (if_neg c58).trans (if_neg c68); rw [e] at hQ; exact hQ)
        · refine wp_iload dX5_outdatedKeys_71 rfl ?_
          refine wp_iconst dX5_outdatedKeys_73 ?_
          refine wp_iload dX5_outdatedKeys_74 rfl ?_
          refine wp_ishl (z := pw k) dX5_outdatedKeys_76 (sh_1 ⟨by omega, by omega⟩) ?_
          refine wp_ior (z := n + pw k) dX5_outdatedKeys_77 (or_1 ⟨by omega, by omega⟩ h4) ?_
          refine wp_istore (L' := [some (vR p), some (vI a), some (vI y), some (vI s), some (vI (n + pw k)), some (vI k)]) dX5_outdatedKeys_78 (by decide) rfl ?_
          refine wp_iinc (L' := [some (vR p), some (vI a), some (vI y), some (vI (s + 12)), some (vI (n + pw k)), some (vI k)]) dX5_outdatedKeys_80 rfl rfl ?_
          refine wp_iinc (L' := [some (vR p), some (vI a), some (vI y), some (vI (s + 12)), some (vI (n + pw k)), some (vI (k + 1))]) dX5_outdatedKeys_83 rfl rfl ?_
          refine wp_goto 34 dX5_outdatedKeys_86 rfl ?_
          exact ih _ _ _ (by omega) (by omega) (by rw [pw_s h3]; omega) (by unfold sA at *; omega) (by have e : wOkL g a y (m + 1) k n s = _ := (if_neg c58).trans (if_pos c68); rw [e] at hQ; exact hQ)
def wOk (g : Int → Int) (a : Int) : Int := if g (30 + (a / 2)) = 0 then 0 else wOkL g a (72 + a / 2 * 10) 10 0 0 (sA a 0)
set_option maxHeartbeats 2000000 in
theorem C_woutdatedKeys {a : Int} (hS : SA 5 p q h) (hI : IW B g) (hBB : B + 1000 ≤ 1000000000) (ha : 0 ≤ a ∧ a < 6) (hQ : Q (some (vI (wOk g a))) (h.set q (oI 1060 g))) : Cl X kX5_outdatedKeys [vR p, vI a] (h.set q (oI 1060 g)) Q := by
  refine cl_of rfl (Nat.le_of_ble_eq_true rfl) rfl ?_
  have hR := hI.r (by omega)
  refine wp_aload_n dX5_outdatedKeys_0 rfl ?_
  refine wp_iload_n dX5_outdatedKeys_1 rfl ?_
  refine wp_iconst dX5_outdatedKeys_2 ?_
  refine wp_idivn dX5_outdatedKeys_3 (by first | assumption | exact hR _ | exact hR2 _ | exact bI_r _ | (unfold r32; omega)) ⟨by omega, by omega⟩ (by omega) (by omega) ?_
  refine sa_i1 hS dX5_outdatedKeys_4 VX5_placeOf lX5_56 (rq0 rfl rfl) (Nat.le_of_ble_eq_true rfl) (C_wplaceOf (v := g (30 + (a / 2))) hS (by omega) rfl ?_)
  dsimp only [pushR]
  refine wp_if_ne 12 dX5_outdatedKeys_7 rfl (by first | assumption | exact hR _ | exact hR2 _ | exact bI_r _ | (unfold r32; omega)) (fun c7 => ?_) (fun c7 => ?_)
  · refine wp_bipush dX5_outdatedKeys_12 rfl ?_
    refine wp_iload_n dX5_outdatedKeys_14 rfl ?_
    refine wp_iconst dX5_outdatedKeys_15 ?_
    refine wp_idivn dX5_outdatedKeys_16 (by first | assumption | exact hR _ | exact hR2 _ | exact bI_r _ | (unfold r32; omega)) ⟨by omega, by omega⟩ (by omega) (by omega) ?_
    refine wp_bipush dX5_outdatedKeys_17 rfl ?_
    refine wp_imul dX5_outdatedKeys_19 ?_
    refine wp_iadd dX5_outdatedKeys_20 ?_
    refine wp_istore_n (L' := [some (vR p), some (vI a), some (vI (72 + a / 2 * 10)), none, none, none]) dX5_outdatedKeys_21 (by decide) rfl ?_
    refine wp_iload_n dX5_outdatedKeys_22 rfl ?_
    refine wp_iconst dX5_outdatedKeys_23 ?_
    refine wp_is2 dX5_outdatedKeys_24 SX5_spotAt lX5_31 (rq0 rfl rfl) (Nat.le_of_ble_eq_true rfl) (C_wspotAt ?_)
    dsimp only [pushR]
    refine wp_istore_n (L' := [some (vR p), some (vI a), some (vI (72 + a / 2 * 10)), some (vI (sA a 0)), none, none]) dX5_outdatedKeys_27 (by decide) rfl ?_
    refine wp_iconst dX5_outdatedKeys_28 ?_
    refine wp_istore (L' := [some (vR p), some (vI a), some (vI (72 + a / 2 * 10)), some (vI (sA a 0)), some (vI 0), none]) dX5_outdatedKeys_29 (by decide) rfl ?_
    refine wp_iconst dX5_outdatedKeys_31 ?_
    refine wp_istore (L' := [some (vR p), some (vI a), some (vI (72 + a / 2 * 10)), some (vI (sA a 0)), some (vI 0), some (vI 0)]) dX5_outdatedKeys_32 (by decide) rfl ?_
    exact lp_wOkL hS hR ha rfl 10 0 0 _ (by omega) (by omega) ⟨by omega, by decide⟩ rfl (by have e : wOk g a = _ := if_neg c7; rw [e] at hQ; exact hQ)
  · refine wp_iconst dX5_outdatedKeys_10 ?_
    exact wp_iret dX5_outdatedKeys_11 rfl (by have e : wOk g a = _ := if_pos c7; rw [e] at hQ; exact hQ)
theorem wOkL_b {a y : Int} : ∀ (m : Nat) (k n s : Int), k + m = 10 → 0 ≤ k → 0 ≤ n ∧ n < pw k → 0 ≤ wOkL g a y m k n s ∧ wOkL g a y m k n s < 1024 := by
  intro m
  induction m with
  | zero =>
    intro k n s h1 h2 h3
    obtain rfl : k = 10 := by omega
    exact ⟨h3.1, h3.2⟩
  | succ m ih =>
    intro k n s h1 h2 h3
    have hp := pw_s h2
    unfold wOkL
    (repeat' split) <;> exact ih _ _ _ (by omega) (by omega) (by omega)
theorem wOk_b (g : Int → Int) (a : Int) : 0 ≤ wOk g a ∧ wOk g a < 1024 := by
  unfold wOk
  split
  · omega
  · exact wOkL_b 10 0 0 _ (by omega) (by omega) ⟨by omega, by decide⟩
theorem wOk_r (g : Int → Int) (a : Int) : r32 (wOk g a) := by have := wOk_b g a; unfold r32; omega
def wOgL (g : Int → Int)  : Nat → Int → Int → Int
  | 0, _, n => n
  | m + 1, k, n => if wOk g k = 0 then wOgL g m (k + 1) n else wOgL g m (k + 1) (n + 1)
set_option maxHeartbeats 2000000 in
theorem lp_wOgL {b : Nat × Nat} (hS : SA 5 p q h) (hR : ∀ j, r32 (g j)) (hI : IW B g) (hBB : B + 1000 ≤ 1000000000)  : ∀ (m : Nat) (k n : Int), k + m = 6 → 0 ≤ k → Q (some (vI (wOgL g m k n))) (h.set q (oI 1060 g)) → Wp X kX5_outdatedGroups 4 [some (vR p), some (vI n), some (vI k)] [] (h.set q (oI 1060 g)) b Q := by
  intro m
  induction m with
  | zero =>
    intro k n h1 h3 hQ
    obtain rfl : k = 6 := by omega
    refine wp_iload_n dX5_outdatedGroups_4 rfl ?_
    refine wp_bipush dX5_outdatedGroups_5 rfl ?_
    refine wp_icmp_ge 27 dX5_outdatedGroups_7 rfl (by first | assumption | exact hR _ | exact hR2 _ | exact bI_r _ | (unfold r32; omega)) ⟨by omega, by omega⟩ (fun c7 => ?_) (fun c7 => ?_)
    · refine wp_iload_n dX5_outdatedGroups_27 rfl ?_
      exact wp_iret dX5_outdatedGroups_28 rfl (by have e : wOgL g 0 6 n = _ := rfl; rw [e] at hQ; exact hQ)
    · omega
  | succ m ih =>
    intro k n h1 h3 hQ
    refine wp_iload_n dX5_outdatedGroups_4 rfl ?_
    refine wp_bipush dX5_outdatedGroups_5 rfl ?_
    refine wp_icmp_ge 27 dX5_outdatedGroups_7 rfl (by first | assumption | exact hR _ | exact hR2 _ | exact bI_r _ | (unfold r32; omega)) ⟨by omega, by omega⟩ (fun c7 => ?_) (fun c7 => ?_)
    · omega
    · refine wp_aload_n dX5_outdatedGroups_10 rfl ?_
      refine wp_iload_n dX5_outdatedGroups_11 rfl ?_
      refine sa_i1 hS dX5_outdatedGroups_12 VX5_outdatedKeys lX5_59 (rq0 rfl rfl) (Nat.le_of_ble_eq_true rfl) (C_woutdatedKeys hS hI (by omega) (by omega) ?_)
      dsimp only [pushR]
      refine wp_if_eq 21 dX5_outdatedGroups_15 rfl (wOk_r _ _) (fun c15 => ?_) (fun c15 => ?_)
      · refine wp_iinc (L' := [some (vR p), some (vI n), some (vI (k + 1))]) dX5_outdatedGroups_21 rfl rfl ?_
        refine wp_goto 4 dX5_outdatedGroups_24 rfl ?_
        exact ih _ _ (by omega) (by omega) (by have e : wOgL g (m + 1) k n = _ := if_pos c15; rw [e] at hQ; exact hQ)
      · refine wp_iinc (L' := [some (vR p), some (vI (n + 1)), some (vI k)]) dX5_outdatedGroups_18 rfl rfl ?_
        refine wp_iinc (L' := [some (vR p), some (vI (n + 1)), some (vI (k + 1))]) dX5_outdatedGroups_21 rfl rfl ?_
        refine wp_goto 4 dX5_outdatedGroups_24 rfl ?_
        exact ih _ _ (by omega) (by omega) (by have e : wOgL g (m + 1) k n = _ := if_neg c15; rw [e] at hQ; exact hQ)
def wOg (g : Int → Int)  : Int := wOgL g 6 0 0
set_option maxHeartbeats 2000000 in
theorem C_woutdatedGroups (hS : SA 5 p q h) (hI : IW B g) (hBB : B + 1000 ≤ 1000000000)  (hQ : Q (some (vI (wOg g))) (h.set q (oI 1060 g))) : Cl X kX5_outdatedGroups [vR p] (h.set q (oI 1060 g)) Q := by
  refine cl_of rfl (Nat.le_of_ble_eq_true rfl) rfl ?_
  have hR := hI.r (by omega)
  refine wp_iconst dX5_outdatedGroups_0 ?_
  refine wp_istore_n (L' := [some (vR p), some (vI 0), none]) dX5_outdatedGroups_1 (by decide) rfl ?_
  refine wp_iconst dX5_outdatedGroups_2 ?_
  refine wp_istore_n (L' := [some (vR p), some (vI 0), some (vI 0)]) dX5_outdatedGroups_3 (by decide) rfl ?_
  exact lp_wOgL hS hR hI hBB 6 0 0 (by omega) (by omega) hQ
def wHtL (g : Int → Int) (a : Int) : Nat → Int → Int → Int
  | 0, _, n => n
  | m + 1, k, n => if g (20 + a) < g (20 + k) then wHtL g a m (k + 1) (n + 1) else if g (20 + k) = g (20 + a) then if a ≤ k then wHtL g a m (k + 1) n else wHtL g a m (k + 1) (n + 1) else wHtL g a m (k + 1) n
set_option maxHeartbeats 2000000 in
theorem lp_wHtL {b : Nat × Nat} {a : Int} (hS : SA 5 p q h) (hR : ∀ j, r32 (g j)) (ha : 0 ≤ a ∧ a < 10) : ∀ (m : Nat) (k n : Int), k + m = 10 → 0 ≤ k → Q (some (vI (wHtL g a m k n))) (h.set q (oI 1060 g)) → Wp X kX5_hotterThan 15 [some (vR p), some (vI a), some (vI (g (20 + a))), some (vI n), some (vI k), none] [] (h.set q (oI 1060 g)) b Q := by
  intro m
  induction m with
  | zero =>
    intro k n h1 h3 hQ
    obtain rfl : k = 10 := by omega
    refine wp_iload dX5_hotterThan_15 rfl ?_
    refine wp_bipush dX5_hotterThan_17 rfl ?_
    refine wp_icmp_ge 61 dX5_hotterThan_19 rfl (by first | assumption | exact hR _ | exact hR2 _ | exact bI_r _ | (unfold r32; omega)) ⟨by omega, by omega⟩ (fun c19 => ?_) (fun c19 => ?_)
    · refine wp_iload_n dX5_hotterThan_61 rfl ?_
      exact wp_iret dX5_hotterThan_62 rfl (by have e : wHtL g a 0 10 n = _ := rfl; rw [e] at hQ; exact hQ)
    · omega
  | succ m ih =>
    intro k n h1 h3 hQ
    refine wp_iload dX5_hotterThan_15 rfl ?_
    refine wp_bipush dX5_hotterThan_17 rfl ?_
    refine wp_icmp_ge 61 dX5_hotterThan_19 rfl (by first | assumption | exact hR _ | exact hR2 _ | exact bI_r _ | (unfold r32; omega)) ⟨by omega, by omega⟩ (fun c19 => ?_) (fun c19 => ?_)
    · omega
    · refine wp_aload_n dX5_hotterThan_22 rfl ?_
      refine sa_get hS dX5_hotterThan_23 fX5_11 ?_
      refine wp_bipush dX5_hotterThan_26 rfl ?_
      refine wp_iload dX5_hotterThan_28 rfl ?_
      refine wp_iadd dX5_hotterThan_30 ?_
      refine sa_ld (v := g (20 + k)) hS dX5_hotterThan_31 (by decide) (by omega) rfl ?_
      refine wp_istore (L' := [some (vR p), some (vI a), some (vI (g (20 + a))), some (vI n), some (vI k), some (vI (g (20 + k)))]) dX5_hotterThan_32 (by decide) rfl ?_
      refine wp_iload dX5_hotterThan_34 rfl ?_
      refine wp_iload_n dX5_hotterThan_36 rfl ?_
      refine wp_icmp_gt 52 dX5_hotterThan_37 rfl (by first | assumption | exact hR _ | exact hR2 _ | exact bI_r _ | (unfold r32; omega)) (by first | assumption | exact hR _ | exact hR2 _ | exact bI_r _ | (unfold r32; omega)) (fun c37 => ?_) (fun c37 => ?_)
      · refine wp_iinc (L' := [some (vR p), some (vI a), some (vI (g (20 + a))), some (vI (n + 1)), some (vI k), some (vI (g (20 + k)))]) dX5_hotterThan_52 rfl rfl ?_
        refine wp_iinc (L' := [some (vR p), some (vI a), some (vI (g (20 + a))), some (vI (n + 1)), some (vI (k + 1)), some (vI (g (20 + k)))]) dX5_hotterThan_55 rfl rfl ?_
        refine wp_goto 15 dX5_hotterThan_58 rfl ?_
        refine wp_drop (L' := [some (vR p), some (vI a), some (vI (g (20 + a))), some (vI (n + 1)), some (vI (k + 1)), none]) 5 rfl ?_
        exact ih _ _ (by omega) (by omega) (by have e : wHtL g a (m + 1) k n = _ := if_pos c37; rw [e] at hQ; exact hQ)
      · refine wp_iload dX5_hotterThan_40 rfl ?_
        refine wp_iload_n dX5_hotterThan_42 rfl ?_
        refine wp_icmp_ne 55 dX5_hotterThan_43 rfl (by first | assumption | exact hR _ | exact hR2 _ | exact bI_r _ | (unfold r32; omega)) (by first | assumption | exact hR _ | exact hR2 _ | exact bI_r _ | (unfold r32; omega)) (fun c43 => ?_) (fun c43 => ?_)
        · refine wp_iinc (L' := [some (vR p), some (vI a), some (vI (g (20 + a))), some (vI n), some (vI (k + 1)), some (vI (g (20 + k)))]) dX5_hotterThan_55 rfl rfl ?_
          refine wp_goto 15 dX5_hotterThan_58 rfl ?_
          refine wp_drop (L' := [some (vR p), some (vI a), some (vI (g (20 + a))), some (vI n), some (vI (k + 1)), none]) 5 rfl ?_
          exact ih _ _ (by omega) (by omega) (by have e : wHtL g a (m + 1) k n = _ := (if_neg c37).trans (if_neg c43); rw [e] at hQ; exact hQ)
        · refine wp_iload dX5_hotterThan_46 rfl ?_
          refine wp_iload_n dX5_hotterThan_48 rfl ?_
          refine wp_icmp_ge 55 dX5_hotterThan_49 rfl (by first | assumption | exact hR _ | exact hR2 _ | exact bI_r _ | (unfold r32; omega)) (by first | assumption | exact hR _ | exact hR2 _ | exact bI_r _ | (unfold r32; omega)) (fun c49 => ?_) (fun c49 => ?_)
          · refine wp_iinc (L' := [some (vR p), some (vI a), some (vI (g (20 + a))), some (vI n), some (vI (k + 1)), some (vI (g (20 + k)))]) dX5_hotterThan_55 rfl rfl ?_
            refine wp_goto 15 dX5_hotterThan_58 rfl ?_
            refine wp_drop (L' := [some (vR p), some (vI a), some (vI (g (20 + a))), some (vI n), some (vI (k + 1)), none]) 5 rfl ?_
            exact ih _ _ (by omega) (by omega) (by have e : wHtL g a (m + 1) k n = _ := (if_neg c37).trans ((if_pos c43).trans (if_pos c49)); rw [e] at hQ; exact hQ)
          · refine wp_iinc (L' := [some (vR p), some (vI a), some (vI (g (20 + a))), some (vI (n + 1)), some (vI k), some (vI (g (20 + k)))]) dX5_hotterThan_52 rfl rfl ?_
            refine wp_iinc (L' := [some (vR p), some (vI a), some (vI (g (20 + a))), some (vI (n + 1)), some (vI (k + 1)), some (vI (g (20 + k)))]) dX5_hotterThan_55 rfl rfl ?_
            refine wp_goto 15 dX5_hotterThan_58 rfl ?_
            refine wp_drop (L' := [some (vR p), some (vI a), some (vI (g (20 + a))), some (vI (n + 1)), some (vI (k + 1)), none]) 5 rfl ?_
            exact ih _ _ (by omega) (by omega) (by have e : wHtL g a (m + 1) k n = _ := (if_neg c37).trans ((if_pos c43).trans (if_neg c49)); rw [e] at hQ; exact hQ)
def wHt (g : Int → Int) (a : Int) : Int := wHtL g a 10 0 0
set_option maxHeartbeats 2000000 in
theorem C_whotterThan {a : Int} (hS : SA 5 p q h) (hI : IW B g) (hBB : B + 1000 ≤ 1000000000) (ha : 0 ≤ a ∧ a < 10) (hQ : Q (some (vI (wHt g a))) (h.set q (oI 1060 g))) : Cl X kX5_hotterThan [vR p, vI a] (h.set q (oI 1060 g)) Q := by
  refine cl_of rfl (Nat.le_of_ble_eq_true rfl) rfl ?_
  have hR := hI.r (by omega)
  refine wp_aload_n dX5_hotterThan_0 rfl ?_
  refine sa_get hS dX5_hotterThan_1 fX5_11 ?_
  refine wp_bipush dX5_hotterThan_4 rfl ?_
  refine wp_iload_n dX5_hotterThan_6 rfl ?_
  refine wp_iadd dX5_hotterThan_7 ?_
  refine sa_ld (v := g (20 + a)) hS dX5_hotterThan_8 (by decide) (by omega) rfl ?_
  refine wp_istore_n (L' := [some (vR p), some (vI a), some (vI (g (20 + a))), none, none, none]) dX5_hotterThan_9 (by decide) rfl ?_
  refine wp_iconst dX5_hotterThan_10 ?_
  refine wp_istore_n (L' := [some (vR p), some (vI a), some (vI (g (20 + a))), some (vI 0), none, none]) dX5_hotterThan_11 (by decide) rfl ?_
  refine wp_iconst dX5_hotterThan_12 ?_
  refine wp_istore (L' := [some (vR p), some (vI a), some (vI (g (20 + a))), some (vI 0), some (vI 0), none]) dX5_hotterThan_13 (by decide) rfl ?_
  exact lp_wHtL hS hR ha 10 0 0 (by omega) (by omega) hQ
theorem wHtL_b {a : Int} : ∀ (m : Nat) (k n : Int), n ≤ wHtL g a m k n ∧ wHtL g a m k n ≤ n + m := by
  intro m
  induction m with
  | zero => intro k n; simp [wHtL]
  | succ m ih =>
    intro k n
    unfold wHtL
    have h1 := ih (k + 1) n
    have h2 := ih (k + 1) (n + 1)
    (repeat' split) <;> omega
theorem wHt_r (g : Int → Int) (a : Int) : r32 (wHt g a) := by have := wHtL_b (g := g) (a := a) 10 0 0; unfold wHt r32; omega
def wHkL (g : Int → Int) (j : Int) : Nat → Int → Int
  | 0, _ => (-2)
  | m + 1, k => if wHt g k = j then k else wHkL g j m (k + 1)
set_option maxHeartbeats 2000000 in
theorem lp_wHkL {b : Nat × Nat} {j : Int} (hS : SA 5 p q h) (hR : ∀ j, r32 (g j)) (hI : IW B g) (hBB : B + 1000 ≤ 1000000000) (hj : 0 ≤ j ∧ j < 10) : ∀ (m : Nat) (k : Int), k + m = 10 → 0 ≤ k → Q (some (vI (wHkL g j m k))) (h.set q (oI 1060 g)) → Wp X kX5_hotKey 2 [some (vR p), some (vI j), some (vI k)] [] (h.set q (oI 1060 g)) b Q := by
  intro m
  induction m with
  | zero =>
    intro k h1 h3 hQ
    obtain rfl : k = 10 := by omega
    refine wp_iload_n dX5_hotKey_2 rfl ?_
    refine wp_bipush dX5_hotKey_3 rfl ?_
    refine wp_icmp_ge 25 dX5_hotKey_5 rfl (by first | assumption | exact hR _ | exact hR2 _ | exact bI_r _ | (unfold r32; omega)) ⟨by omega, by omega⟩ (fun c5 => ?_) (fun c5 => ?_)
    · refine wp_bipush dX5_hotKey_25 rfl ?_
      exact wp_iret dX5_hotKey_27 rfl (by have e : wHkL g j 0 10 = _ := rfl; rw [e] at hQ; exact hQ)
    · omega
  | succ m ih =>
    intro k h1 h3 hQ
    refine wp_iload_n dX5_hotKey_2 rfl ?_
    refine wp_bipush dX5_hotKey_3 rfl ?_
    refine wp_icmp_ge 25 dX5_hotKey_5 rfl (by first | assumption | exact hR _ | exact hR2 _ | exact bI_r _ | (unfold r32; omega)) ⟨by omega, by omega⟩ (fun c5 => ?_) (fun c5 => ?_)
    · omega
    · refine wp_aload_n dX5_hotKey_8 rfl ?_
      refine wp_iload_n dX5_hotKey_9 rfl ?_
      refine sa_i1 hS dX5_hotKey_10 VX5_hotterThan lX5_62 (rq0 rfl rfl) (Nat.le_of_ble_eq_true rfl) (C_whotterThan hS hI (by omega) (by omega) ?_)
      dsimp only [pushR]
      refine wp_iload_n dX5_hotKey_13 rfl ?_
      refine wp_icmp_ne 19 dX5_hotKey_14 rfl (by first | exact wHt_r _ _ | (unfold r32; omega)) (by first | exact wHt_r _ _ | (unfold r32; omega)) (fun c14 => ?_) (fun c14 => ?_)
      · refine wp_iinc (L' := [some (vR p), some (vI j), some (vI (k + 1))]) dX5_hotKey_19 rfl rfl ?_
        refine wp_goto 2 dX5_hotKey_22 rfl ?_
        exact ih _ (by omega) (by omega) (by have e : wHkL g j (m + 1) k = _ := if_neg c14; rw [e] at hQ; exact hQ)
      · refine wp_iload_n dX5_hotKey_17 rfl ?_
        exact wp_iret dX5_hotKey_18 rfl (by have e : wHkL g j (m + 1) k = _ := if_pos c14; rw [e] at hQ; exact hQ)
def wHk (g : Int → Int) (j : Int) : Int := wHkL g j 10 0
set_option maxHeartbeats 2000000 in
theorem C_whotKey {j : Int} (hS : SA 5 p q h) (hI : IW B g) (hBB : B + 1000 ≤ 1000000000) (hj : 0 ≤ j ∧ j < 10) (hQ : Q (some (vI (wHk g j))) (h.set q (oI 1060 g))) : Cl X kX5_hotKey [vR p, vI j] (h.set q (oI 1060 g)) Q := by
  refine cl_of rfl (Nat.le_of_ble_eq_true rfl) rfl ?_
  have hR := hI.r (by omega)
  refine wp_iconst dX5_hotKey_0 ?_
  refine wp_istore_n (L' := [some (vR p), some (vI j), some (vI 0)]) dX5_hotKey_1 (by decide) rfl ?_
  exact lp_wHkL hS hR hI hBB hj 10 0 (by omega) (by omega) hQ
def wDiL (g : Int → Int) (u s : Int) : Nat → Int → Int → Int
  | 0, _, z => z
  | m + 1, k, z => if g 0 < g (340 + s * 12 + xv 4 k) then if (g (340 + s * 12 + xv 4 k) * 4 + k) * 60 + s ≤ u then wDiL g u s m (k + 1) z else if z = (-2) then wDiL g u s m (k + 1) ((g (340 + s * 12 + xv 4 k) * 4 + k) * 60 + s) else if z ≤ (g (340 + s * 12 + xv 4 k) * 4 + k) * 60 + s then wDiL g u s m (k + 1) z else wDiL g u s m (k + 1) ((g (340 + s * 12 + xv 4 k) * 4 + k) * 60 + s) else wDiL g u s m (k + 1) z
set_option maxHeartbeats 2000000 in
theorem lp_wDiL {b : Nat × Nat} {u s : Int} (hS : SA 5 p q h) (hR : ∀ j, r32 (g j)) (hI : IW B g) (hBB : B ≤ 8000000) (hu : r32 u) (hs : 0 ≤ s ∧ s < 60) : ∀ (m : Nat) (k z : Int), k + m = 4 → 0 ≤ k → (r32 z) → Wp X kX5_dueCodeBehind 92 [some (vR p), some (vI u), some (vI (wDiL g u s m k z)), some (vI s), some (vI 4), none, none] [] (h.set q (oI 1060 g)) b Q → Wp X kX5_dueCodeBehind 14 [some (vR p), some (vI u), some (vI z), some (vI s), some (vI k), none, none] [] (h.set q (oI 1060 g)) b Q := by
  intro m
  induction m with
  | zero =>
    intro k z h1 h3 h4 hQ
    obtain rfl : k = 4 := by omega
    refine wp_iload dX5_dueCodeBehind_14 rfl ?_
    refine wp_iconst dX5_dueCodeBehind_16 ?_
    refine wp_icmp_ge 92 dX5_dueCodeBehind_17 rfl (by first | assumption | exact hR _ | exact hR2 _ | exact bI_r _ | (unfold r32; omega)) ⟨by omega, by omega⟩ (fun c17 => ?_) (fun c17 => ?_)
    · exact (by have e : wDiL g u s 0 4 z = _ := rfl; rw [e] at hQ; exact hQ)
    · omega
  | succ m ih =>
    intro k z h1 h3 h4 hQ
    have hx := xv4_b (i := k) ⟨h3, by omega⟩
    refine wp_iload dX5_dueCodeBehind_14 rfl ?_
    refine wp_iconst dX5_dueCodeBehind_16 ?_
    refine wp_icmp_ge 92 dX5_dueCodeBehind_17 rfl (by first | assumption | exact hR _ | exact hR2 _ | exact bI_r _ | (unfold r32; omega)) ⟨by omega, by omega⟩ (fun c17 => ?_) (fun c17 => ?_)
    · omega
    · refine wp_sipush dX5_dueCodeBehind_20 rfl ?_
      refine wp_iload_n dX5_dueCodeBehind_23 rfl ?_
      refine wp_bipush dX5_dueCodeBehind_24 rfl ?_
      refine wp_imul dX5_dueCodeBehind_26 ?_
      refine wp_iadd dX5_dueCodeBehind_27 ?_
      refine wp_gets 4 dX5_dueCodeBehind_28 wsX5_68 (by decide) ?_
      refine wp_iload dX5_dueCodeBehind_31 rfl ?_
      refine wp_xld 4 dX5_dueCodeBehind_33 (by decide) (by show 0 ≤ k ∧ k < ((4 : Nat) : Int); omega) ?_
      refine wp_iadd dX5_dueCodeBehind_34 ?_
      refine wp_istore (L' := [some (vR p), some (vI u), some (vI z), some (vI s), some (vI k), some (vI (340 + s * 12 + xv 4 k)), none]) dX5_dueCodeBehind_35 (by decide) rfl ?_
      refine wp_aload_n dX5_dueCodeBehind_37 rfl ?_
      refine sa_get hS dX5_dueCodeBehind_38 fX5_11 ?_
      refine wp_iload dX5_dueCodeBehind_41 rfl ?_
      refine sa_ld (v := g (340 + s * 12 + xv 4 k)) hS dX5_dueCodeBehind_43 (by decide) (by omega) rfl ?_
      refine wp_iconst dX5_dueCodeBehind_44 ?_
      refine wp_imul dX5_dueCodeBehind_45 ?_
      refine wp_iload dX5_dueCodeBehind_46 rfl ?_
      refine wp_iadd dX5_dueCodeBehind_48 ?_
      refine wp_bipush dX5_dueCodeBehind_49 rfl ?_
      refine wp_imul dX5_dueCodeBehind_51 ?_
      refine wp_iload_n dX5_dueCodeBehind_52 rfl ?_
      refine wp_iadd dX5_dueCodeBehind_53 ?_
      refine wp_istore (L' := [some (vR p), some (vI u), some (vI z), some (vI s), some (vI k), some (vI (340 + s * 12 + xv 4 k)), some (vI ((g (340 + s * 12 + xv 4 k) * 4 + k) * 60 + s))]) dX5_dueCodeBehind_54 (by decide) rfl ?_
      refine wp_aload_n dX5_dueCodeBehind_56 rfl ?_
      refine wp_iload dX5_dueCodeBehind_57 rfl ?_
      refine sa_i1 hS dX5_dueCodeBehind_59 VX5_isAhead lX5_35 (rq0 rfl rfl) (Nat.le_of_ble_eq_true rfl) (C_wisAhead (v0 := g 0) (v1 := g (340 + s * 12 + xv 4 k)) hS (by omega) rfl rfl (by first | assumption | exact hR _ | exact hR2 _ | exact bI_r _ | (unfold r32; omega)) (by first | assumption | exact hR _ | exact hR2 _ | exact bI_r _ | (unfold r32; omega)) ?_)
      dsimp only [pushR]
      refine wp_beq 86 dX5_dueCodeBehind_62 rfl (fun c62 => ?_) (fun c62 => ?_)
      · refine wp_iinc (L' := [some (vR p), some (vI u), some (vI z), some (vI s), some (vI (k + 1)), some (vI (340 + s * 12 + xv 4 k)), some (vI ((g (340 + s * 12 + xv 4 k) * 4 + k) * 60 + s))]) dX5_dueCodeBehind_86 rfl rfl ?_
        refine wp_goto 14 dX5_dueCodeBehind_89 rfl ?_
        refine wp_drop (L' := [some (vR p), some (vI u), some (vI z), some (vI s), some (vI (k + 1)), none, some (vI ((g (340 + s * 12 + xv 4 k) * 4 + k) * 60 + s))]) 5 rfl ?_
        refine wp_drop (L' := [some (vR p), some (vI u), some (vI z), some (vI s), some (vI (k + 1)), none, none]) 6 rfl ?_
        exact ih _ _ (by omega) (by omega) (by first | assumption | have q0 := hI.b (340 + s * 12 + xv 4 k); unfold r32; omega) (by have e : wDiL g u s (m + 1) k z = _ := if_neg c62; rw [e] at hQ; exact hQ)
      · refine wp_iload dX5_dueCodeBehind_65 rfl ?_
        refine wp_iload_n dX5_dueCodeBehind_67 rfl ?_
        refine wp_icmp_le 86 dX5_dueCodeBehind_68 rfl (by first | assumption | have q0 := hI.b (340 + s * 12 + xv 4 k); unfold r32; omega) (by first | assumption | have q0 := hI.b (340 + s * 12 + xv 4 k); unfold r32; omega) (fun c68 => ?_) (fun c68 => ?_)
        · refine wp_iinc (L' := [some (vR p), some (vI u), some (vI z), some (vI s), some (vI (k + 1)), some (vI (340 + s * 12 + xv 4 k)), some (vI ((g (340 + s * 12 + xv 4 k) * 4 + k) * 60 + s))]) dX5_dueCodeBehind_86 rfl rfl ?_
          refine wp_goto 14 dX5_dueCodeBehind_89 rfl ?_
          refine wp_drop (L' := [some (vR p), some (vI u), some (vI z), some (vI s), some (vI (k + 1)), none, some (vI ((g (340 + s * 12 + xv 4 k) * 4 + k) * 60 + s))]) 5 rfl ?_
          refine wp_drop (L' := [some (vR p), some (vI u), some (vI z), some (vI s), some (vI (k + 1)), none, none]) 6 rfl ?_
          exact ih _ _ (by omega) (by omega) (by first | assumption | have q0 := hI.b (340 + s * 12 + xv 4 k); unfold r32; omega) (by have e : wDiL g u s (m + 1) k z = _ := (if_pos c62).trans (if_pos c68); rw [e] at hQ; exact hQ)
        · refine wp_iload_n dX5_dueCodeBehind_71 rfl ?_
          refine wp_bipush dX5_dueCodeBehind_72 rfl ?_
          refine wp_icmp_eq 83 dX5_dueCodeBehind_74 rfl (by first | assumption | have q0 := hI.b (340 + s * 12 + xv 4 k); unfold r32; omega) ⟨by omega, by omega⟩ (fun c74 => ?_) (fun c74 => ?_)
          · refine wp_iload dX5_dueCodeBehind_83 rfl ?_
            refine wp_istore_n (L' := [some (vR p), some (vI u), some (vI ((g (340 + s * 12 + xv 4 k) * 4 + k) * 60 + s)), some (vI s), some (vI k), some (vI (340 + s * 12 + xv 4 k)), some (vI ((g (340 + s * 12 + xv 4 k) * 4 + k) * 60 + s))]) dX5_dueCodeBehind_85 (by decide) rfl ?_
            refine wp_iinc (L' := [some (vR p), some (vI u), some (vI ((g (340 + s * 12 + xv 4 k) * 4 + k) * 60 + s)), some (vI s), some (vI (k + 1)), some (vI (340 + s * 12 + xv 4 k)), some (vI ((g (340 + s * 12 + xv 4 k) * 4 + k) * 60 + s))]) dX5_dueCodeBehind_86 rfl rfl ?_
            refine wp_goto 14 dX5_dueCodeBehind_89 rfl ?_
            refine wp_drop (L' := [some (vR p), some (vI u), some (vI ((g (340 + s * 12 + xv 4 k) * 4 + k) * 60 + s)), some (vI s), some (vI (k + 1)), none, some (vI ((g (340 + s * 12 + xv 4 k) * 4 + k) * 60 + s))]) 5 rfl ?_
            refine wp_drop (L' := [some (vR p), some (vI u), some (vI ((g (340 + s * 12 + xv 4 k) * 4 + k) * 60 + s)), some (vI s), some (vI (k + 1)), none, none]) 6 rfl ?_
            exact ih _ _ (by omega) (by omega) (by first | assumption | have q0 := hI.b (340 + s * 12 + xv 4 k); unfold r32; omega) (by have e : wDiL g u s (m + 1) k z = _ := (if_pos c62).trans ((if_neg c68).trans (if_pos c74)); rw [e] at hQ; exact hQ)
          · refine wp_iload dX5_dueCodeBehind_77 rfl ?_
            refine wp_iload_n dX5_dueCodeBehind_79 rfl ?_
            refine wp_icmp_ge 86 dX5_dueCodeBehind_80 rfl (by first | assumption | have q0 := hI.b (340 + s * 12 + xv 4 k); unfold r32; omega) (by first | assumption | have q0 := hI.b (340 + s * 12 + xv 4 k); unfold r32; omega) (fun c80 => ?_) (fun c80 => ?_)
            · refine wp_iinc (L' := [some (vR p), some (vI u), some (vI z), some (vI s), some (vI (k + 1)), some (vI (340 + s * 12 + xv 4 k)), some (vI ((g (340 + s * 12 + xv 4 k) * 4 + k) * 60 + s))]) dX5_dueCodeBehind_86 rfl rfl ?_
              refine wp_goto 14 dX5_dueCodeBehind_89 rfl ?_
              refine wp_drop (L' := [some (vR p), some (vI u), some (vI z), some (vI s), some (vI (k + 1)), none, some (vI ((g (340 + s * 12 + xv 4 k) * 4 + k) * 60 + s))]) 5 rfl ?_
              refine wp_drop (L' := [some (vR p), some (vI u), some (vI z), some (vI s), some (vI (k + 1)), none, none]) 6 rfl ?_
              exact ih _ _ (by omega) (by omega) (by first | assumption | have q0 := hI.b (340 + s * 12 + xv 4 k); unfold r32; omega) (by have e : wDiL g u s (m + 1) k z = _ := (if_pos c62).trans ((if_neg c68).trans ((if_neg c74).trans (if_pos c80))); rw [e] at hQ; exact hQ)
            · refine wp_iload dX5_dueCodeBehind_83 rfl ?_
              refine wp_istore_n (L' := [some (vR p), some (vI u), some (vI ((g (340 + s * 12 + xv 4 k) * 4 + k) * 60 + s)), some (vI s), some (vI k), some (vI (340 + s * 12 + xv 4 k)), some (vI ((g (340 + s * 12 + xv 4 k) * 4 + k) * 60 + s))]) dX5_dueCodeBehind_85 (by decide) rfl ?_
              refine wp_iinc (L' := [some (vR p), some (vI u), some (vI ((g (340 + s * 12 + xv 4 k) * 4 + k) * 60 + s)), some (vI s), some (vI (k + 1)), some (vI (340 + s * 12 + xv 4 k)), some (vI ((g (340 + s * 12 + xv 4 k) * 4 + k) * 60 + s))]) dX5_dueCodeBehind_86 rfl rfl ?_
              refine wp_goto 14 dX5_dueCodeBehind_89 rfl ?_
              refine wp_drop (L' := [some (vR p), some (vI u), some (vI ((g (340 + s * 12 + xv 4 k) * 4 + k) * 60 + s)), some (vI s), some (vI (k + 1)), none, some (vI ((g (340 + s * 12 + xv 4 k) * 4 + k) * 60 + s))]) 5 rfl ?_
              refine wp_drop (L' := [some (vR p), some (vI u), some (vI ((g (340 + s * 12 + xv 4 k) * 4 + k) * 60 + s)), some (vI s), some (vI (k + 1)), none, none]) 6 rfl ?_
              exact ih _ _ (by omega) (by omega) (by first | assumption | have q0 := hI.b (340 + s * 12 + xv 4 k); unfold r32; omega) (by have e : wDiL g u s (m + 1) k z = _ := (if_pos c62).trans ((if_neg c68).trans ((if_neg c74).trans (if_neg c80))); rw [e] at hQ; exact hQ)
theorem wDiL_r (hI : IW B g) (hBB : B ≤ 8000000) {u s : Int} (hs : 0 ≤ s ∧ s < 60) : ∀ (m : Nat) (k z : Int), k + m = 4 → 0 ≤ k → r32 z → r32 (wDiL g u s m k z) := by
  intro m
  induction m with
  | zero => intro k z h1 h2 h3; exact h3
  | succ m ih =>
    intro k z h1 h2 h3
    have q0 := hI.b (340 + s * 12 + xv 4 k)
    have h4 : r32 ((g (340 + s * 12 + xv 4 k) * 4 + k) * 60 + s) := by unfold r32; omega
    unfold wDiL
    (repeat' split) <;> exact ih _ _ (by omega) (by omega) (by assumption)
def wDoL (g : Int → Int) (u : Int) : Nat → Int → Int → Int
  | 0, _, z => z
  | m + 1, k, z => wDoL g u m (k + 1) (wDiL g u k 4 0 z)
set_option maxHeartbeats 2000000 in
theorem lp_wDoL {b : Nat × Nat} {u : Int} (hS : SA 5 p q h) (hR : ∀ j, r32 (g j)) (hI : IW B g) (hBB : B ≤ 8000000) (hu : r32 u) : ∀ (m : Nat) (k z : Int), k + m = 60 → 0 ≤ k → (r32 z) → Q (some (vI (wDoL g u m k z))) (h.set q (oI 1060 g)) → Wp X kX5_dueCodeBehind 5 [some (vR p), some (vI u), some (vI z), some (vI k), none, none, none] [] (h.set q (oI 1060 g)) b Q := by
  intro m
  induction m with
  | zero =>
    intro k z h1 h3 h4 hQ
    obtain rfl : k = 60 := by omega
    refine wp_iload_n dX5_dueCodeBehind_5 rfl ?_
    refine wp_bipush dX5_dueCodeBehind_6 rfl ?_
    refine wp_icmp_ge 98 dX5_dueCodeBehind_8 rfl (by first | assumption | exact hR _ | exact hR2 _ | exact bI_r _ | (unfold r32; omega)) ⟨by omega, by omega⟩ (fun c8 => ?_) (fun c8 => ?_)
    · refine wp_iload_n dX5_dueCodeBehind_98 rfl ?_
      exact wp_iret dX5_dueCodeBehind_99 rfl (by have e : wDoL g u 0 60 z = _ := rfl; rw [e] at hQ; exact hQ)
    · omega
  | succ m ih =>
    intro k z h1 h3 h4 hQ
    refine wp_iload_n dX5_dueCodeBehind_5 rfl ?_
    refine wp_bipush dX5_dueCodeBehind_6 rfl ?_
    refine wp_icmp_ge 98 dX5_dueCodeBehind_8 rfl (by first | assumption | exact hR _ | exact hR2 _ | exact bI_r _ | (unfold r32; omega)) ⟨by omega, by omega⟩ (fun c8 => ?_) (fun c8 => ?_)
    · omega
    · refine wp_iconst dX5_dueCodeBehind_11 ?_
      refine wp_istore (L' := [some (vR p), some (vI u), some (vI z), some (vI k), some (vI 0), none, none]) dX5_dueCodeBehind_12 (by decide) rfl ?_
      refine lp_wDiL hS hR hI hBB hu ⟨h3, by omega⟩ 4 0 z (by omega) (by omega) h4 ?_
      refine wp_iinc (L' := [some (vR p), some (vI u), some (vI (wDiL g u k 4 0 z)), some (vI (k + 1)), some (vI 4), none, none]) dX5_dueCodeBehind_92 rfl rfl ?_
      refine wp_goto 5 dX5_dueCodeBehind_95 rfl ?_
      refine wp_drop (L' := [some (vR p), some (vI u), some (vI (wDiL g u k 4 0 z)), some (vI (k + 1)), none, none, none]) 4 rfl ?_
      exact ih _ _ (by omega) (by omega) (by first | assumption | exact wDiL_r hI hBB ⟨by omega, by omega⟩ 4 0 _ (by omega) (by omega) (by assumption)) (by have e : wDoL g u (m + 1) k z = _ := rfl; rw [e] at hQ; exact hQ)
def wDb (g : Int → Int) (u : Int) : Int := wDoL g u 60 0 (-2)
set_option maxHeartbeats 2000000 in
theorem C_wdueCodeBehind {u : Int} (hS : SA 5 p q h) (hI : IW B g) (hBB : B ≤ 8000000) (hu : r32 u) (hQ : Q (some (vI (wDb g u))) (h.set q (oI 1060 g))) : Cl X kX5_dueCodeBehind [vR p, vI u] (h.set q (oI 1060 g)) Q := by
  refine cl_of rfl (Nat.le_of_ble_eq_true rfl) rfl ?_
  have hR := hI.r (by omega)
  refine wp_bipush dX5_dueCodeBehind_0 rfl ?_
  refine wp_istore_n (L' := [some (vR p), some (vI u), some (vI (-2)), none, none, none, none]) dX5_dueCodeBehind_2 (by decide) rfl ?_
  refine wp_iconst dX5_dueCodeBehind_3 ?_
  refine wp_istore_n (L' := [some (vR p), some (vI u), some (vI (-2)), some (vI 0), none, none, none]) dX5_dueCodeBehind_4 (by decide) rfl ?_
  exact lp_wDoL hS hR hI hBB hu 60 0 (-2) (by omega) (by omega) (by unfold r32; omega) hQ
theorem wDoL_r (hI : IW B g) (hBB : B ≤ 8000000) {u : Int} : ∀ (m : Nat) (k z : Int), k + m = 60 → 0 ≤ k → r32 z → r32 (wDoL g u m k z) := by
  intro m
  induction m with
  | zero => intro k z h1 h2 h3; exact h3
  | succ m ih =>
    intro k z h1 h2 h3
    unfold wDoL
    exact ih _ _ (by omega) (by omega) (wDiL_r hI hBB ⟨h2, by omega⟩ 4 0 _ (by omega) (by omega) h3)
theorem wDb_r (hI : IW B g) (hBB : B ≤ 8000000) {u : Int} : r32 (wDb g u) := wDoL_r hI hBB 60 0 (-2) (by omega) (by omega) (by unfold r32; omega)
def wDcL (g : Int → Int) (j : Int) : Nat → Int → Int → Int
  | 0, k, z => if j < k then if 240 ≤ j then (-2) else z else if 240 ≤ j then (-2) else z
  | m + 1, k, z => if j < k then if 240 ≤ j then (-2) else z else if 240 ≤ k then if 240 ≤ j then (-2) else z else if 0 ≤ wDb g z then wDcL g j m (k + 1) (wDb g z) else (-2)
set_option maxHeartbeats 2000000 in
theorem lp_wDcL {b : Nat × Nat} {j : Int} (hS : SA 5 p q h) (hR : ∀ j, r32 (g j)) (hI : IW B g) (hBB : B ≤ 8000000) (hj : 0 ≤ j ∧ r32 j) : ∀ (m : Nat) (k z : Int), 240 ≤ k + m → 0 ≤ k → (r32 z) → (k ≤ 240) → Q (some (vI (wDcL g j m k z))) (h.set q (oI 1060 g)) → Wp X kX5_dueCode 4 [some (vR p), some (vI j), some (vI z), some (vI k)] [] (h.set q (oI 1060 g)) b Q := by
  intro m
  induction m with
  | zero =>
    intro k z h1 h3 h4 h5 hQ
    refine wp_iload_n dX5_dueCode_4 rfl ?_
    refine wp_iload_n dX5_dueCode_5 rfl ?_
    refine wp_icmp_gt 35 dX5_dueCode_6 rfl (by first | exact hj.2 | (unfold r32; omega)) (by first | exact hj.2 | (unfold r32; omega)) (fun c6 => ?_) (fun c6 => ?_)
    · refine wp_iload_n dX5_dueCode_35 rfl ?_
      refine wp_sipush dX5_dueCode_36 rfl ?_
      refine wp_icmp_ge 46 dX5_dueCode_39 rfl hj.2 ⟨by omega, by omega⟩ (fun c39 => ?_) (fun c39 => ?_)
      · refine wp_bipush dX5_dueCode_46 rfl ?_
        exact wp_iret dX5_dueCode_48 rfl (by have e : wDcL g j 0 k z = _ := (if_pos c6).trans (if_pos c39); rw [e] at hQ; exact hQ)
      · refine wp_iload_n dX5_dueCode_42 rfl ?_
        refine wp_goto 48 dX5_dueCode_43 rfl ?_
        exact wp_iret dX5_dueCode_48 rfl (by have e : wDcL g j 0 k z = _ := (if_pos c6).trans (if_neg c39); rw [e] at hQ; exact hQ)
    · refine wp_iload_n dX5_dueCode_9 rfl ?_
      refine wp_sipush dX5_dueCode_10 rfl ?_
      refine wp_icmp_ge 35 dX5_dueCode_13 rfl (by first | assumption | exact hR _ | exact hR2 _ | exact bI_r _ | (unfold r32; omega)) ⟨by omega, by omega⟩ (fun c13 => ?_) (fun c13 => ?_)
      · refine wp_iload_n dX5_dueCode_35 rfl ?_
        refine wp_sipush dX5_dueCode_36 rfl ?_
        refine wp_icmp_ge 46 dX5_dueCode_39 rfl hj.2 ⟨by omega, by omega⟩ (fun c39 => ?_) (fun c39 => ?_)
        · refine wp_bipush dX5_dueCode_46 rfl ?_
          exact wp_iret dX5_dueCode_48 rfl (by have e : wDcL g j 0 k z = _ := (if_neg c6).trans (if_pos c39); rw [e] at hQ; exact hQ)
        · refine wp_iload_n dX5_dueCode_42 rfl ?_
          refine wp_goto 48 dX5_dueCode_43 rfl ?_
          exact wp_iret dX5_dueCode_48 rfl (by have e : wDcL g j 0 k z = _ := (if_neg c6).trans (if_neg c39); rw [e] at hQ; exact hQ)
      · omega
  | succ m ih =>
    intro k z h1 h3 h4 h5 hQ
    refine wp_iload_n dX5_dueCode_4 rfl ?_
    refine wp_iload_n dX5_dueCode_5 rfl ?_
    refine wp_icmp_gt 35 dX5_dueCode_6 rfl (by first | exact hj.2 | (unfold r32; omega)) (by first | exact hj.2 | (unfold r32; omega)) (fun c6 => ?_) (fun c6 => ?_)
    · refine wp_iload_n dX5_dueCode_35 rfl ?_
      refine wp_sipush dX5_dueCode_36 rfl ?_
      refine wp_icmp_ge 46 dX5_dueCode_39 rfl hj.2 ⟨by omega, by omega⟩ (fun c39 => ?_) (fun c39 => ?_)
      · refine wp_bipush dX5_dueCode_46 rfl ?_
        exact wp_iret dX5_dueCode_48 rfl (by have e : wDcL g j (m + 1) k z = _ := (if_pos c6).trans (if_pos c39); rw [e] at hQ; exact hQ)
      · refine wp_iload_n dX5_dueCode_42 rfl ?_
        refine wp_goto 48 dX5_dueCode_43 rfl ?_
        exact wp_iret dX5_dueCode_48 rfl (by have e : wDcL g j (m + 1) k z = _ := (if_pos c6).trans (if_neg c39); rw [e] at hQ; exact hQ)
    · refine wp_iload_n dX5_dueCode_9 rfl ?_
      refine wp_sipush dX5_dueCode_10 rfl ?_
      refine wp_icmp_ge 35 dX5_dueCode_13 rfl (by first | assumption | exact hR _ | exact hR2 _ | exact bI_r _ | (unfold r32; omega)) ⟨by omega, by omega⟩ (fun c13 => ?_) (fun c13 => ?_)
      · refine wp_iload_n dX5_dueCode_35 rfl ?_
        refine wp_sipush dX5_dueCode_36 rfl ?_
        refine wp_icmp_ge 46 dX5_dueCode_39 rfl hj.2 ⟨by omega, by omega⟩ (fun c39 => ?_) (fun c39 => ?_)
        · refine wp_bipush dX5_dueCode_46 rfl ?_
          exact wp_iret dX5_dueCode_48 rfl (by have e : wDcL g j (m + 1) k z = _ := (if_neg c6).trans ((if_pos c13).trans (if_pos c39)); rw [e] at hQ; exact hQ)
        · refine wp_iload_n dX5_dueCode_42 rfl ?_
          refine wp_goto 48 dX5_dueCode_43 rfl ?_
          exact wp_iret dX5_dueCode_48 rfl (by have e : wDcL g j (m + 1) k z = _ := (if_neg c6).trans ((if_pos c13).trans (if_neg c39)); rw [e] at hQ; exact hQ)
      · refine wp_aload_n dX5_dueCode_16 rfl ?_
        refine wp_iload_n dX5_dueCode_17 rfl ?_
        refine sa_i1 hS dX5_dueCode_18 VX5_dueCodeBehind lX5_65 (rq0 rfl rfl) (Nat.le_of_ble_eq_true rfl) (C_wdueCodeBehind hS hI hBB (by first | assumption | (unfold r32; omega)) ?_)
        dsimp only [pushR]
        refine wp_istore_n (L' := [some (vR p), some (vI j), some (vI (wDb g z)), some (vI k)]) dX5_dueCode_21 (by decide) rfl ?_
        refine wp_iload_n dX5_dueCode_22 rfl ?_
        refine wp_if_ge 29 dX5_dueCode_23 rfl (wDb_r hI hBB) (fun c23 => ?_) (fun c23 => ?_)
        · refine wp_iinc (L' := [some (vR p), some (vI j), some (vI (wDb g z)), some (vI (k + 1))]) dX5_dueCode_29 rfl rfl ?_
          refine wp_goto 4 dX5_dueCode_32 rfl ?_
          exact ih _ _ (by omega) (by omega) (by first | assumption | exact wDb_r hI hBB) (by omega) (by have e : wDcL g j (m + 1) k z = _ := (if_neg c6).trans ((if_neg c13).trans (if_pos c23)); rw [e] at hQ; exact hQ)
        · refine wp_bipush dX5_dueCode_26 rfl ?_
          exact wp_iret dX5_dueCode_28 rfl (by have e : wDcL g j (m + 1) k z = _ := (if_neg c6).trans ((if_neg c13).trans (if_neg c23)); rw [e] at hQ; exact hQ)
def wDc (g : Int → Int) (j : Int) : Int := wDcL g j 240 0 (-1)
set_option maxHeartbeats 2000000 in
theorem C_wdueCode {j : Int} (hS : SA 5 p q h) (hI : IW B g) (hBB : B ≤ 8000000) (hj : 0 ≤ j ∧ r32 j) (hQ : Q (some (vI (wDc g j))) (h.set q (oI 1060 g))) : Cl X kX5_dueCode [vR p, vI j] (h.set q (oI 1060 g)) Q := by
  refine cl_of rfl (Nat.le_of_ble_eq_true rfl) rfl ?_
  have hR := hI.r (by omega)
  refine wp_iconst dX5_dueCode_0 ?_
  refine wp_istore_n (L' := [some (vR p), some (vI j), some (vI (-1)), none]) dX5_dueCode_1 (by decide) rfl ?_
  refine wp_iconst dX5_dueCode_2 ?_
  refine wp_istore_n (L' := [some (vR p), some (vI j), some (vI (-1)), some (vI 0)]) dX5_dueCode_3 (by decide) rfl ?_
  exact lp_wDcL hS hR hI hBB hj 240 0 (-1) (by omega) (by omega) (by unfold r32; omega) (by omega) hQ
theorem wDiL_n (hI : IW B g) {u s : Int} (hs : 0 ≤ s ∧ s < 60) : ∀ (m : Nat) (k z : Int), k + m = 4 → 0 ≤ k → -2 ≤ z → -2 ≤ wDiL g u s m k z := by
  intro m
  induction m with
  | zero => intro k z h1 h2 h3; exact h3
  | succ m ih =>
    intro k z h1 h2 h3
    have q0 := hI.b (340 + s * 12 + xv 4 k)
    unfold wDiL
    (repeat' split) <;> exact ih _ _ (by omega) (by omega) (by omega)
def wNext (g : Int → Int)  : Int × (Int → Int) := if 0 ≤ wDb g (-1) then ((g 0) + ((wDb g (-1)) / 240 - g 0), (ud g 0 ((g 0) + ((wDb g (-1)) / 240 - g 0)))) else ((-2), g)
set_option maxHeartbeats 2000000 in
theorem C_wpassToFirstDue (hS : SA 5 p q h) (hI : IW B g) (hBB : B ≤ 8000000)  (hQ : Q (some (vI (wNext g).1)) (h.set q (oI 1060 (wNext g).2))) : Cl X kX5_passToFirstDue [vR p] (h.set q (oI 1060 g)) Q := by
  refine cl_of rfl (Nat.le_of_ble_eq_true rfl) rfl ?_
  have hR := hI.r (by omega)
  refine wp_aload_n dX5_passToFirstDue_0 rfl ?_
  refine wp_iconst dX5_passToFirstDue_1 ?_
  refine sa_i1 hS dX5_passToFirstDue_2 VX5_dueCodeBehind lX5_65 (rq0 rfl rfl) (Nat.le_of_ble_eq_true rfl) (C_wdueCodeBehind hS hI hBB (by first | assumption | (unfold r32; omega)) ?_)
  dsimp only [pushR]
  refine wp_istore_n (L' := [some (vR p), some (vI (wDb g (-1)))]) dX5_passToFirstDue_5 (by decide) rfl ?_
  refine wp_iload_n dX5_passToFirstDue_6 rfl ?_
  refine wp_if_ge 15 dX5_passToFirstDue_7 rfl (wDb_r hI hBB) (fun c7 => ?_) (fun c7 => ?_)
  · refine wp_aload_n dX5_passToFirstDue_15 rfl ?_
    refine wp_iload_n dX5_passToFirstDue_16 rfl ?_
    refine wp_is1 dX5_passToFirstDue_17 SX5_endOfDue lX5_145 (rq0 rfl rfl) (Nat.le_of_ble_eq_true rfl) (C_wendOfDue (by omega) (wDb_r hI hBB) ?_)
    dsimp only [pushR]
    refine wp_aload_n dX5_passToFirstDue_20 rfl ?_
    refine sa_i0 hS dX5_passToFirstDue_21 VX5_now lX5_91 (rq0 rfl rfl) (Nat.le_of_ble_eq_true rfl) (C_wnow (v := g 0) hS rfl ?_)
    dsimp only [pushR]
    refine wp_isub dX5_passToFirstDue_24 ?_
    refine sa_i1 hS dX5_passToFirstDue_25 VX5_pass lX5_148 (rq0 rfl rfl) (Nat.le_of_ble_eq_true rfl) (C_wpass (v0 := g 0) hS rfl ?_)
    dsimp only [pushR]
    exact wp_iret dX5_passToFirstDue_28 rfl (by have e : wNext g = _ := if_pos c7; rw [e] at hQ; exact hQ)
  · refine wp_bipush dX5_passToFirstDue_10 rfl ?_
    refine wp_goto 28 dX5_passToFirstDue_12 rfl ?_
    exact wp_iret dX5_passToFirstDue_28 rfl (by have e : wNext g = _ := if_neg c7; rw [e] at hQ; exact hQ)
end WC
