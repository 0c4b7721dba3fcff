/-! the class' World: places in its row, what its small methods answer -/
def sA (a k : Int) : Int := 340 + (a * 10 + k) * 12
def cA (c : Int) : Int := 292 + c * 8
def jA (n : Int) : Int := 112 + (n - 1) * 3
def CellW (B j x : Int) : Prop := (0 ≤ x ∧ x ≤ B) ∧ ((j = 1 ∨ 30 ≤ j ∧ j < 33 ∨ 72 ≤ j ∧ j < 112) → x ≤ 60) ∧ (112 ≤ j ∧ j < 292 ∧ (j - 112) % 3 = 0 → x ≤ 9) ∧ (292 ≤ j ∧ j < 340 ∧ (j - 292) % 8 = 0 → x ≤ 5) ∧ (292 ≤ j ∧ j < 340 ∧ (j - 292) % 8 = 1 → x ≤ 9) ∧ (340 ≤ j ∧ (j - 340) % 12 = 0 → x ≤ 999)
/-- what a World's row keeps to -/
def IW (B : Int) (g : Int → Int) : Prop := ∀ j, CellW B j (g j)
section WA
variable {X : XS} {h : AH} {Q : Option AV → AH → Prop} {p q : Nat} {g : Int → Int} {B : Int}
theorem IW.b (hI : IW B g) (j : Int) : 0 ≤ g j ∧ g j ≤ B := (hI j).1
theorem IW.r (hI : IW B g) (h : B ≤ 1000000000) : ∀ j, r32 (g j) := fun j => by have := hI.b j; unfold r32; omega
theorem IW.up {C : Int} (hI : IW B g) (h : B ≤ C) : IW C g := fun j => ⟨⟨(hI j).1.1, by have := (hI j).1.2; omega⟩, (hI j).2⟩
theorem IW.wr {i x : Int} (hI : IW B g) (hx : CellW B i x) : IW B (ud g i x) := fun j => by
  unfold ud
  split
  · rename_i e; subst e; exact hx
  · exact hI j
theorem IW.v60 (hI : IW B g) {j : Int} (h : j = 1 ∨ 30 ≤ j ∧ j < 33 ∨ 72 ≤ j ∧ j < 112) : 0 ≤ g j ∧ g j ≤ 60 := ⟨(hI j).1.1, (hI j).2.1 h⟩
theorem IW.jk (hI : IW B g) {n : Int} (h : 1 ≤ n ∧ n ≤ 60) : 0 ≤ g (jA n + 0) ∧ g (jA n + 0) < 10 := ⟨(hI _).1.1, by have := (hI (jA n + 0)).2.2.1 (by unfold jA; omega); omega⟩
theorem IW.cg (hI : IW B g) {c : Int} (h : 0 ≤ c ∧ c < 6) : 0 ≤ g (cA c + 0) ∧ g (cA c + 0) < 6 := ⟨(hI _).1.1, by have := (hI (cA c + 0)).2.2.2.1 (by unfold cA; omega); omega⟩
theorem IW.ck (hI : IW B g) {c : Int} (h : 0 ≤ c ∧ c < 6) : 0 ≤ g (cA c + 1) ∧ g (cA c + 1) < 10 := ⟨(hI _).1.1, by have := (hI (cA c + 1)).2.2.2.2.1 (by unfold cA; omega); omega⟩
theorem IW.vl (hI : IW B g) {a k : Int} (h : 0 ≤ a ∧ a < 6) (h2 : 0 ≤ k ∧ k < 10) : 0 ≤ g (sA a k + 0) ∧ g (sA a k + 0) < 1000 := ⟨(hI _).1.1, by have := (hI (sA a k + 0)).2.2.2.2.2 (by unfold sA; omega); omega⟩
theorem sA_b {a k : Int} (h : 0 ≤ a ∧ a < 6) (h2 : 0 ≤ k ∧ k < 10) : 340 ≤ sA a k ∧ sA a k + 12 ≤ 1060 := by unfold sA; omega
theorem cA_b {c : Int} (h : 0 ≤ c ∧ c < 6) : 292 ≤ cA c ∧ cA c + 8 ≤ 340 := by unfold cA; omega
theorem jA_b {n : Int} (h : 1 ≤ n ∧ n ≤ 60) : 112 ≤ jA n ∧ jA n + 3 ≤ 292 := by unfold jA; omega
theorem C_wspotAt {a k : Int} (hQ : Q (some (vI (sA a k))) h) : Cl X kX5_spotAt [vI a, vI k] h Q := by
  refine cl_of rfl (Nat.le_of_ble_eq_true rfl) rfl ?_
  refine wp_sipush dX5_spotAt_0 rfl ?_
  refine wp_iload_n dX5_spotAt_3 rfl ?_
  refine wp_bipush dX5_spotAt_4 rfl ?_
  refine wp_imul dX5_spotAt_6 ?_
  refine wp_iload_n dX5_spotAt_7 rfl ?_
  refine wp_iadd dX5_spotAt_8 ?_
  refine wp_bipush dX5_spotAt_9 rfl ?_
  refine wp_imul dX5_spotAt_11 ?_
  refine wp_iadd dX5_spotAt_12 ?_
  exact wp_iret dX5_spotAt_13 rfl hQ
theorem C_whandAt {c : Int} (hQ : Q (some (vI (cA c))) h) : Cl X kX5_handAt [vI c] h Q := by
  refine cl_of rfl (Nat.le_of_ble_eq_true rfl) rfl ?_
  refine wp_sipush dX5_handAt_0 rfl ?_
  refine wp_iload_n dX5_handAt_3 rfl ?_
  refine wp_bipush dX5_handAt_4 rfl ?_
  refine wp_imul dX5_handAt_6 ?_
  refine wp_iadd dX5_handAt_7 ?_
  exact wp_iret dX5_handAt_8 rfl hQ
theorem C_wwriteAt {n : Int} (hQ : Q (some (vI (jA n))) h) : Cl X kX5_writeAt [vI n] h Q := by
  refine cl_of rfl (Nat.le_of_ble_eq_true rfl) rfl ?_
  refine wp_bipush dX5_writeAt_0 rfl ?_
  refine wp_iload_n dX5_writeAt_2 rfl ?_
  refine wp_iconst dX5_writeAt_3 ?_
  refine wp_isub dX5_writeAt_4 ?_
  refine wp_iconst dX5_writeAt_5 ?_
  refine wp_imul dX5_writeAt_6 ?_
  refine wp_iadd dX5_writeAt_7 ?_
  exact wp_iret dX5_writeAt_8 rfl hQ
theorem C_wisAhead {a v0 v1 : Int} (hS : SA 5 p q h) (ha : 0 ≤ a ∧ a < 1060) (h0 : g 0 = v0) (h1 : g a = v1) (hr0 : r32 v0) (hr1 : r32 v1) (hQ : Q (some (vI (bI (v0 < v1)))) (h.set q (oI 1060 g))) : Cl X kX5_isAhead [vR p, vI a] (h.set q (oI 1060 g)) Q := by
  refine cl_of rfl (Nat.le_of_ble_eq_true rfl) rfl ?_
  subst h0; subst h1
  refine wp_aload_n dX5_isAhead_0 rfl ?_
  refine sa_get hS dX5_isAhead_1 fX5_11 ?_
  refine wp_iload_n dX5_isAhead_4 rfl ?_
  refine sa_ld (v := g a) hS dX5_isAhead_5 (by decide) (by omega) rfl ?_
  refine wp_aload_n dX5_isAhead_6 rfl ?_
  refine sa_get hS dX5_isAhead_7 fX5_11 ?_
  refine wp_iconst dX5_isAhead_10 ?_
  refine sa_ld (v := g 0) hS dX5_isAhead_11 (by decide) (by omega) rfl ?_
  refine wp_icmp_le 19 dX5_isAhead_12 rfl (by first | assumption | exact hR _ | exact hR2 _ | exact bI_r _ | (unfold r32; omega)) (by first | assumption | exact hR _ | exact hR2 _ | exact bI_r _ | (unfold r32; omega)) (fun c12 => ?_) (fun c12 => ?_)
  · refine wp_iconst dX5_isAhead_19 ?_
    exact wp_zret dX5_isAhead_20 rfl (Or.inl rfl) (by first | (rw [bI_t (by omega)] at hQ; exact hQ) | (rw [bI_f (by omega)] at hQ; exact hQ))
  · refine wp_iconst dX5_isAhead_15 ?_
    refine wp_goto 20 dX5_isAhead_16 rfl ?_
    exact wp_zret dX5_isAhead_20 rfl (Or.inr rfl) (by first | (rw [bI_t (by omega)] at hQ; exact hQ) | (rw [bI_f (by omega)] at hQ; exact hQ))
theorem C_wnow {v : Int} (hS : SA 5 p q h)  (hv : g (0) = v) (hQ : Q (some (vI v)) (h.set q (oI 1060 g))) : Cl X kX5_now [vR p] (h.set q (oI 1060 g)) Q := by
  refine cl_of rfl (Nat.le_of_ble_eq_true rfl) rfl ?_
  subst hv
  refine wp_aload_n dX5_now_0 rfl ?_
  refine sa_get hS dX5_now_1 fX5_11 ?_
  refine wp_iconst dX5_now_4 ?_
  refine sa_ld (v := g 0) hS dX5_now_5 (by decide) (by omega) rfl ?_
  exact wp_iret dX5_now_6 rfl hQ
theorem C_wwrites {v : Int} (hS : SA 5 p q h)  (hv : g (1) = v) (hQ : Q (some (vI v)) (h.set q (oI 1060 g))) : Cl X kX5_writes [vR p] (h.set q (oI 1060 g)) Q := by
  refine cl_of rfl (Nat.le_of_ble_eq_true rfl) rfl ?_
  subst hv
  refine wp_aload_n dX5_writes_0 rfl ?_
  refine sa_get hS dX5_writes_1 fX5_11 ?_
  refine wp_iconst dX5_writes_4 ?_
  refine sa_ld (v := g 1) hS dX5_writes_5 (by decide) (by omega) rfl ?_
  exact wp_iret dX5_writes_6 rfl hQ
theorem C_wsettingOf {i v : Int} (hS : SA 5 p q h) (hi : 0 ≤ i ∧ i < 7) (hv : g (3 + i) = v) (hQ : Q (some (vI v)) (h.set q (oI 1060 g))) : Cl X kX5_settingOf [vR p, vI i] (h.set q (oI 1060 g)) Q := by
  refine cl_of rfl (Nat.le_of_ble_eq_true rfl) rfl ?_
  subst hv
  refine wp_aload_n dX5_settingOf_0 rfl ?_
  refine sa_get hS dX5_settingOf_1 fX5_11 ?_
  refine wp_iconst dX5_settingOf_4 ?_
  refine wp_iload_n dX5_settingOf_5 rfl ?_
  refine wp_iadd dX5_settingOf_6 ?_
  refine sa_ld (v := g (3 + i)) hS dX5_settingOf_7 (by decide) (by omega) rfl ?_
  exact wp_iret dX5_settingOf_8 rfl hQ
theorem C_wledOf {i v : Int} (hS : SA 5 p q h) (hi : 0 ≤ i ∧ i < 10) (hv : g (10 + i) = v) (hQ : Q (some (vI v)) (h.set q (oI 1060 g))) : Cl X kX5_ledOf [vR p, vI i] (h.set q (oI 1060 g)) Q := by
  refine cl_of rfl (Nat.le_of_ble_eq_true rfl) rfl ?_
  subst hv
  refine wp_aload_n dX5_ledOf_0 rfl ?_
  refine sa_get hS dX5_ledOf_1 fX5_11 ?_
  refine wp_bipush dX5_ledOf_4 rfl ?_
  refine wp_iload_n dX5_ledOf_6 rfl ?_
  refine wp_iadd dX5_ledOf_7 ?_
  refine sa_ld (v := g (10 + i)) hS dX5_ledOf_8 (by decide) (by omega) rfl ?_
  exact wp_iret dX5_ledOf_9 rfl hQ
theorem C_wplaceOf {i v : Int} (hS : SA 5 p q h) (hi : 0 ≤ i ∧ i < 3) (hv : g (30 + i) = v) (hQ : Q (some (vI v)) (h.set q (oI 1060 g))) : Cl X kX5_placeOf [vR p, vI i] (h.set q (oI 1060 g)) Q := by
  refine cl_of rfl (Nat.le_of_ble_eq_true rfl) rfl ?_
  subst hv
  refine wp_aload_n dX5_placeOf_0 rfl ?_
  refine sa_get hS dX5_placeOf_1 fX5_11 ?_
  refine wp_bipush dX5_placeOf_4 rfl ?_
  refine wp_iload_n dX5_placeOf_6 rfl ?_
  refine wp_iadd dX5_placeOf_7 ?_
  refine sa_ld (v := g (30 + i)) hS dX5_placeOf_8 (by decide) (by omega) rfl ?_
  exact wp_iret dX5_placeOf_9 rfl hQ
theorem C_wloadsOf {i v : Int} (hS : SA 5 p q h) (hi : 0 ≤ i ∧ i < 3) (hv : g (33 + i) = v) (hQ : Q (some (vI v)) (h.set q (oI 1060 g))) : Cl X kX5_loadsOf [vR p, vI i] (h.set q (oI 1060 g)) Q := by
  refine cl_of rfl (Nat.le_of_ble_eq_true rfl) rfl ?_
  subst hv
  refine wp_aload_n dX5_loadsOf_0 rfl ?_
  refine sa_get hS dX5_loadsOf_1 fX5_11 ?_
  refine wp_bipush dX5_loadsOf_4 rfl ?_
  refine wp_iload_n dX5_loadsOf_6 rfl ?_
  refine wp_iadd dX5_loadsOf_7 ?_
  refine sa_ld (v := g (33 + i)) hS dX5_loadsOf_8 (by decide) (by omega) rfl ?_
  exact wp_iret dX5_loadsOf_9 rfl hQ
theorem C_wmarkerOf {r k v : Int} (hS : SA 5 p q h) (hr : 0 ≤ r ∧ r < 3) (hk : 0 ≤ k ∧ k < 10) (hv : g (42 + r * 10 + k) = v) (hQ : Q (some (vI v)) (h.set q (oI 1060 g))) : Cl X kX5_markerOf [vR p, vI r, vI k] (h.set q (oI 1060 g)) Q := by
  refine cl_of rfl (Nat.le_of_ble_eq_true rfl) rfl ?_
  subst hv
  refine wp_aload_n dX5_markerOf_0 rfl ?_
  refine sa_get hS dX5_markerOf_1 fX5_11 ?_
  refine wp_bipush dX5_markerOf_4 rfl ?_
  refine wp_iload_n dX5_markerOf_6 rfl ?_
  refine wp_bipush dX5_markerOf_7 rfl ?_
  refine wp_imul dX5_markerOf_9 ?_
  refine wp_iadd dX5_markerOf_10 ?_
  refine wp_iload_n dX5_markerOf_11 rfl ?_
  refine wp_iadd dX5_markerOf_12 ?_
  refine sa_ld (v := g (42 + r * 10 + k)) hS dX5_markerOf_13 (by decide) (by omega) rfl ?_
  exact wp_iret dX5_markerOf_14 rfl hQ
theorem C_wgroupOf {c v : Int} (hS : SA 5 p q h) (hc : 0 ≤ c ∧ c < 6) (hv : g (cA c + 0) = v) (hQ : Q (some (vI v)) (h.set q (oI 1060 g))) : Cl X kX5_groupOf [vR p, vI c] (h.set q (oI 1060 g)) Q := by
  refine cl_of rfl (Nat.le_of_ble_eq_true rfl) rfl ?_
  subst hv
  have hb1 := cA_b hc
  refine wp_aload_n dX5_groupOf_0 rfl ?_
  refine sa_get hS dX5_groupOf_1 fX5_11 ?_
  refine wp_iload_n dX5_groupOf_4 rfl ?_
  refine wp_is1 dX5_groupOf_5 SX5_handAt lX5_24 (rq0 rfl rfl) (Nat.le_of_ble_eq_true rfl) (C_whandAt ?_)
  dsimp only [pushR]
  refine wp_iconst dX5_groupOf_8 ?_
  refine wp_iadd dX5_groupOf_9 ?_
  refine sa_ld (v := g (cA c + 0)) hS dX5_groupOf_10 (by decide) (by omega) rfl ?_
  exact wp_iret dX5_groupOf_11 rfl hQ
theorem C_wentryPart {a k i v : Int} (hS : SA 5 p q h) (ha : 0 ≤ a ∧ a < 6) (hk : 0 ≤ k ∧ k < 10) (hi : 0 ≤ i ∧ i < 12) (hv : g (sA a k + i) = v) (hQ : Q (some (vI v)) (h.set q (oI 1060 g))) : Cl X kX5_entryPart [vR p, vI a, vI k, vI i] (h.set q (oI 1060 g)) Q := by
  refine cl_of rfl (Nat.le_of_ble_eq_true rfl) rfl ?_
  subst hv
  have hb1 := sA_b ha hk
  refine wp_aload_n dX5_entryPart_0 rfl ?_
  refine sa_get hS dX5_entryPart_1 fX5_11 ?_
  refine wp_iload_n dX5_entryPart_4 rfl ?_
  refine wp_iload_n dX5_entryPart_5 rfl ?_
  refine wp_is2 dX5_entryPart_6 SX5_spotAt lX5_31 (rq0 rfl rfl) (Nat.le_of_ble_eq_true rfl) (C_wspotAt ?_)
  dsimp only [pushR]
  refine wp_iload_n dX5_entryPart_9 rfl ?_
  refine wp_iadd dX5_entryPart_10 ?_
  refine sa_ld (v := g (sA a k + i)) hS dX5_entryPart_11 (by decide) (by omega) rfl ?_
  exact wp_iret dX5_entryPart_12 rfl hQ
theorem C_whasEntry {a k v0 v1 : Int} (hS : SA 5 p q h) (ha : 0 ≤ a ∧ a < 6) (hk : 0 ≤ k ∧ k < 10) (h0 : g 0 = v0) (h1 : g (sA a k + 5) = v1) (hr0 : r32 v0) (hr1 : r32 v1) (hQ : Q (some (vI (bI (v0 < v1)))) (h.set q (oI 1060 g))) : Cl X kX5_hasEntry [vR p, vI a, vI k] (h.set q (oI 1060 g)) Q := by
  refine cl_of rfl (Nat.le_of_ble_eq_true rfl) rfl ?_
  have hb1 := sA_b ha hk
  subst h0; subst h1
  refine wp_aload_n dX5_hasEntry_0 rfl ?_
  refine wp_iload_n dX5_hasEntry_1 rfl ?_
  refine wp_iload_n dX5_hasEntry_2 rfl ?_
  refine wp_is2 dX5_hasEntry_3 SX5_spotAt lX5_31 (rq0 rfl rfl) (Nat.le_of_ble_eq_true rfl) (C_wspotAt ?_)
  dsimp only [pushR]
  refine wp_iconst dX5_hasEntry_6 ?_
  refine wp_iadd dX5_hasEntry_7 ?_
  refine sa_i1 hS dX5_hasEntry_8 VX5_isAhead lX5_35 (rq0 rfl rfl) (Nat.le_of_ble_eq_true rfl) (C_wisAhead (v0 := g 0) (v1 := g (sA a k + 5)) hS (by omega) rfl rfl (by first | assumption | exact hR _ | exact hR2 _ | exact bI_r _ | (unfold r32; omega)) (by first | assumption | exact hR _ | exact hR2 _ | exact bI_r _ | (unfold r32; omega)) ?_)
  dsimp only [pushR]
  exact wp_zret dX5_hasEntry_11 rfl (bI_01 _) hQ
def wVal (g : Int → Int) (n : Int) : Int := if n = 0 then 0 else g (jA n + 1)
set_option maxHeartbeats 2000000 in
theorem C_wvalueOf {n : Int} (hS : SA 5 p q h) (hI : IW B g) (hBB : B + 1000 ≤ 1000000000) (hn : 0 ≤ n ∧ n ≤ 60) (hQ : Q (some (vI (wVal g n))) (h.set q (oI 1060 g))) : Cl X kX5_valueOf [vR p, vI n] (h.set q (oI 1060 g)) Q := by
  refine cl_of rfl (Nat.le_of_ble_eq_true rfl) rfl ?_
  have hR := hI.r (by omega)
  refine wp_iload_n dX5_valueOf_0 rfl ?_
  refine wp_if_ne 8 dX5_valueOf_1 rfl (by first | assumption | exact hR _ | exact hR2 _ | exact bI_r _ | (unfold r32; omega)) (fun c1 => ?_) (fun c1 => ?_)
  · have hb1 : n ≠ 0 → 112 ≤ jA n ∧ jA n + 3 ≤ 292 := fun q => jA_b (by omega)
    refine wp_aload_n dX5_valueOf_8 rfl ?_
    refine sa_get hS dX5_valueOf_9 fX5_11 ?_
    refine wp_iload_n dX5_valueOf_12 rfl ?_
    refine wp_is1 dX5_valueOf_13 SX5_writeAt lX5_42 (rq0 rfl rfl) (Nat.le_of_ble_eq_true rfl) (C_wwriteAt ?_)
    dsimp only [pushR]
    refine wp_iconst dX5_valueOf_16 ?_
    refine wp_iadd dX5_valueOf_17 ?_
    refine sa_ld (v := g (jA n + 1)) hS dX5_valueOf_18 (by decide) (by omega) rfl ?_
    exact wp_iret dX5_valueOf_19 rfl (by have e : wVal g n = _ := if_neg c1; rw [e] at hQ; exact hQ)
  · have hb1 : n ≠ 0 → 112 ≤ jA n ∧ jA n + 3 ≤ 292 := fun q => jA_b (by omega)
    refine wp_iconst dX5_valueOf_4 ?_
    refine wp_goto 19 dX5_valueOf_5 rfl ?_
    exact wp_iret dX5_valueOf_19 rfl (by have e : wVal g n = _ := if_pos c1; rw [e] at hQ; exact hQ)
def wSv (g : Int → Int) (r k : Int) : Int := if r = 0 then g (102 + k) else g (72 + r * 10 + k)
set_option maxHeartbeats 2000000 in
theorem C_wstoreVersion {r k : Int} (hS : SA 5 p q h) (hI : IW B g) (hBB : B + 1000 ≤ 1000000000) (hr : 0 ≤ r ∧ r < 3) (hk : 0 ≤ k ∧ k < 10) (hQ : Q (some (vI (wSv g r k))) (h.set q (oI 1060 g))) : Cl X kX5_storeVersion [vR p, vI r, vI k] (h.set q (oI 1060 g)) Q := by
  refine cl_of rfl (Nat.le_of_ble_eq_true rfl) rfl ?_
  have hR := hI.r (by omega)
  refine wp_aload_n dX5_storeVersion_0 rfl ?_
  refine sa_get hS dX5_storeVersion_1 fX5_11 ?_
  refine wp_iload_n dX5_storeVersion_4 rfl ?_
  refine wp_if_ne 15 dX5_storeVersion_5 rfl (by first | assumption | exact hR _ | exact hR2 _ | exact bI_r _ | (unfold r32; omega)) (fun c5 => ?_) (fun c5 => ?_)
  · refine wp_bipush dX5_storeVersion_15 rfl ?_
    refine wp_iload_n dX5_storeVersion_17 rfl ?_
    refine wp_bipush dX5_storeVersion_18 rfl ?_
    refine wp_imul dX5_storeVersion_20 ?_
    refine wp_iadd dX5_storeVersion_21 ?_
    refine wp_iload_n dX5_storeVersion_22 rfl ?_
    refine wp_iadd dX5_storeVersion_23 ?_
    refine sa_ld (v := g (72 + r * 10 + k)) hS dX5_storeVersion_24 (by decide) (by omega) rfl ?_
    exact wp_iret dX5_storeVersion_25 rfl (by have e : wSv g r k = _ := if_neg c5; rw [e] at hQ; exact hQ)
  · refine wp_bipush dX5_storeVersion_8 rfl ?_
    refine wp_iload_n dX5_storeVersion_10 rfl ?_
    refine wp_iadd dX5_storeVersion_11 ?_
    refine wp_goto 24 dX5_storeVersion_12 rfl ?_
    refine sa_ld (v := g (102 + k)) hS dX5_storeVersion_24 (by decide) (by omega) rfl ?_
    exact wp_iret dX5_storeVersion_25 rfl (by have e : wSv g r k = _ := if_pos c5; rw [e] at hQ; exact hQ)
def wCp (g : Int → Int) (c i : Int) : Int := if i = 0 then if i < 4 then g (cA c + i) else if g (cA c + 3) = 0 then (-2) else g (cA c + i) else if i < 4 then if g (cA c + 7) = 0 then (-2) else g (cA c + i) else if g (cA c + 7) = 0 then (-2) else if g (cA c + 3) = 0 then (-2) else g (cA c + i)
set_option maxHeartbeats 2000000 in
theorem C_wclientPart {c i : Int} (hS : SA 5 p q h) (hI : IW B g) (hBB : B + 1000 ≤ 1000000000) (hc : 0 ≤ c ∧ c < 6) (hi : 0 ≤ i ∧ i < 7) (hQ : Q (some (vI (wCp g c i))) (h.set q (oI 1060 g))) : Cl X kX5_clientPart [vR p, vI c, vI i] (h.set q (oI 1060 g)) Q := by
  refine cl_of rfl (Nat.le_of_ble_eq_true rfl) rfl ?_
  have hR := hI.r (by omega)
  have hb1 := cA_b hc
  refine wp_iload_n dX5_clientPart_0 rfl ?_
  refine wp_is1 dX5_clientPart_1 SX5_handAt lX5_24 (rq0 rfl rfl) (Nat.le_of_ble_eq_true rfl) (C_whandAt ?_)
  dsimp only [pushR]
  refine wp_istore_n (L' := [some (vR p), some (vI c), some (vI i), some (vI (cA c)), none, none]) dX5_clientPart_4 (by decide) rfl ?_
  refine wp_iload_n dX5_clientPart_5 rfl ?_
  refine wp_if_eq 13 dX5_clientPart_6 rfl (by first | assumption | exact hR _ | exact hR2 _ | exact bI_r _ | (unfold r32; omega)) (fun c6 => ?_) (fun c6 => ?_)
  · refine wp_iconst dX5_clientPart_13 ?_
    refine wp_istore (L' := [some (vR p), some (vI c), some (vI i), some (vI (cA c)), some (vI 0), none]) dX5_clientPart_14 (by decide) rfl ?_
    refine wp_iload_n dX5_clientPart_16 rfl ?_
    refine wp_iconst dX5_clientPart_17 ?_
    refine wp_icmp_lt 25 dX5_clientPart_18 rfl (by first | assumption | exact hR _ | exact hR2 _ | exact bI_r _ | (unfold r32; omega)) ⟨by omega, by omega⟩ (fun c18 => ?_) (fun c18 => ?_)
    · refine wp_iconst dX5_clientPart_25 ?_
      refine wp_istore (L' := [some (vR p), some (vI c), some (vI i), some (vI (cA c)), some (vI 0), some (vI 0)]) dX5_clientPart_26 (by decide) rfl ?_
      refine wp_iload dX5_clientPart_28 rfl ?_
      refine wp_if_eq 45 dX5_clientPart_30 rfl ⟨by omega, by omega⟩ (fun c30 => ?_) (fun c30 => absurd c30 (by omega))
      refine wp_iload dX5_clientPart_45 rfl ?_
      refine wp_if_eq 64 dX5_clientPart_47 rfl ⟨by omega, by omega⟩ (fun c47 => ?_) (fun c47 => absurd c47 (by omega))
      refine wp_aload_n dX5_clientPart_64 rfl ?_
      refine sa_get hS dX5_clientPart_65 fX5_11 ?_
      refine wp_iload_n dX5_clientPart_68 rfl ?_
      refine wp_iload_n dX5_clientPart_69 rfl ?_
      refine wp_iadd dX5_clientPart_70 ?_
      refine sa_ld (v := g (cA c + i)) hS dX5_clientPart_71 (by decide) (by omega) rfl ?_
      exact wp_iret dX5_clientPart_72 rfl (by have e : wCp g c i = _ := (if_pos c6).trans (if_pos c18); rw [e] at hQ; exact hQ)
    · refine wp_iconst dX5_clientPart_21 ?_
      refine wp_goto 26 dX5_clientPart_22 rfl ?_
      refine wp_istore (L' := [some (vR p), some (vI c), some (vI i), some (vI (cA c)), some (vI 0), some (vI 1)]) dX5_clientPart_26 (by decide) rfl ?_
      refine wp_iload dX5_clientPart_28 rfl ?_
      refine wp_if_eq 45 dX5_clientPart_30 rfl ⟨by omega, by omega⟩ (fun c30 => ?_) (fun c30 => absurd c30 (by omega))
      refine wp_iload dX5_clientPart_45 rfl ?_
      refine wp_if_eq 64 dX5_clientPart_47 rfl ⟨by omega, by omega⟩ (fun c47 => absurd c47 (by omega)) (fun c47 => ?_)
      refine wp_aload_n dX5_clientPart_50 rfl ?_
      refine sa_get hS dX5_clientPart_51 fX5_11 ?_
      refine wp_iload_n dX5_clientPart_54 rfl ?_
      refine wp_iconst dX5_clientPart_55 ?_
      refine wp_iadd dX5_clientPart_56 ?_
      refine sa_ld (v := g (cA c + 3)) hS dX5_clientPart_57 (by decide) (by omega) rfl ?_
      refine wp_if_ne 64 dX5_clientPart_58 rfl (by first | assumption | exact hR _ | exact hR2 _ | exact bI_r _ | (unfold r32; omega)) (fun c58 => ?_) (fun c58 => ?_)
      · refine wp_aload_n dX5_clientPart_64 rfl ?_
        refine sa_get hS dX5_clientPart_65 fX5_11 ?_
        refine wp_iload_n dX5_clientPart_68 rfl ?_
        refine wp_iload_n dX5_clientPart_69 rfl ?_
        refine wp_iadd dX5_clientPart_70 ?_
        refine sa_ld (v := g (cA c + i)) hS dX5_clientPart_71 (by decide) (by omega) rfl ?_
        exact wp_iret dX5_clientPart_72 rfl (by have e : wCp g c i = _ := (if_pos c6).trans ((if_neg c18).trans (if_neg c58)); rw [e] at hQ; exact hQ)
      · refine wp_bipush dX5_clientPart_61 rfl ?_
        exact wp_iret dX5_clientPart_63 rfl (by have e : wCp g c i = _ := (if_pos c6).trans ((if_neg c18).trans (if_pos c58)); rw [e] at hQ; exact hQ)
  · refine wp_iconst dX5_clientPart_9 ?_
    refine wp_goto 14 dX5_clientPart_10 rfl ?_
    refine wp_istore (L' := [some (vR p), some (vI c), some (vI i), some (vI (cA c)), some (vI 1), none]) dX5_clientPart_14 (by decide) rfl ?_
    refine wp_iload_n dX5_clientPart_16 rfl ?_
    refine wp_iconst dX5_clientPart_17 ?_
    refine wp_icmp_lt 25 dX5_clientPart_18 rfl (by first | assumption | exact hR _ | exact hR2 _ | exact bI_r _ | (unfold r32; omega)) ⟨by omega, by omega⟩ (fun c18 => ?_) (fun c18 => ?_)
    · refine wp_iconst dX5_clientPart_25 ?_
      refine wp_istore (L' := [some (vR p), some (vI c), some (vI i), some (vI (cA c)), some (vI 1), some (vI 0)]) dX5_clientPart_26 (by decide) rfl ?_
      refine wp_iload dX5_clientPart_28 rfl ?_
      refine wp_if_eq 45 dX5_clientPart_30 rfl ⟨by omega, by omega⟩ (fun c30 => absurd c30 (by omega)) (fun c30 => ?_)
      refine wp_aload_n dX5_clientPart_33 rfl ?_
      refine sa_get hS dX5_clientPart_34 fX5_11 ?_
      refine wp_iload_n dX5_clientPart_37 rfl ?_
      refine wp_bipush dX5_clientPart_38 rfl ?_
      refine wp_iadd dX5_clientPart_40 ?_
      refine sa_ld (v := g (cA c + 7)) hS dX5_clientPart_41 (by decide) (by omega) rfl ?_
      refine wp_if_eq 61 dX5_clientPart_42 rfl (by first | assumption | exact hR _ | exact hR2 _ | exact bI_r _ | (unfold r32; omega)) (fun c42 => ?_) (fun c42 => ?_)
      · refine wp_bipush dX5_clientPart_61 rfl ?_
        exact wp_iret dX5_clientPart_63 rfl (by have e : wCp g c i = _ := (if_neg c6).trans ((if_pos c18).trans (if_pos c42)); rw [e] at hQ; exact hQ)
      · refine wp_iload dX5_clientPart_45 rfl ?_
        refine wp_if_eq 64 dX5_clientPart_47 rfl ⟨by omega, by omega⟩ (fun c47 => ?_) (fun c47 => absurd c47 (by omega))
        refine wp_aload_n dX5_clientPart_64 rfl ?_
        refine sa_get hS dX5_clientPart_65 fX5_11 ?_
        refine wp_iload_n dX5_clientPart_68 rfl ?_
        refine wp_iload_n dX5_clientPart_69 rfl ?_
        refine wp_iadd dX5_clientPart_70 ?_
        refine sa_ld (v := g (cA c + i)) hS dX5_clientPart_71 (by decide) (by omega) rfl ?_
        exact wp_iret dX5_clientPart_72 rfl (by have e : wCp g c i = _ := (if_neg c6).trans ((if_pos c18).trans (if_neg c42)); rw [e] at hQ; exact hQ)
    · refine wp_iconst dX5_clientPart_21 ?_
      refine wp_goto 26 dX5_clientPart_22 rfl ?_
      refine wp_istore (L' := [some (vR p), some (vI c), some (vI i), some (vI (cA c)), some (vI 1), some (vI 1)]) dX5_clientPart_26 (by decide) rfl ?_
      refine wp_iload dX5_clientPart_28 rfl ?_
      refine wp_if_eq 45 dX5_clientPart_30 rfl ⟨by omega, by omega⟩ (fun c30 => absurd c30 (by omega)) (fun c30 => ?_)
      refine wp_aload_n dX5_clientPart_33 rfl ?_
      refine sa_get hS dX5_clientPart_34 fX5_11 ?_
      refine wp_iload_n dX5_clientPart_37 rfl ?_
      refine wp_bipush dX5_clientPart_38 rfl ?_
      refine wp_iadd dX5_clientPart_40 ?_
      refine sa_ld (v := g (cA c + 7)) hS dX5_clientPart_41 (by decide) (by omega) rfl ?_
      refine wp_if_eq 61 dX5_clientPart_42 rfl (by first | assumption | exact hR _ | exact hR2 _ | exact bI_r _ | (unfold r32; omega)) (fun c42 => ?_) (fun c42 => ?_)
      · refine wp_bipush dX5_clientPart_61 rfl ?_
        exact wp_iret dX5_clientPart_63 rfl (by have e : wCp g c i = _ := (if_neg c6).trans ((if_neg c18).trans (if_pos c42)); rw [e] at hQ; exact hQ)
      · refine wp_iload dX5_clientPart_45 rfl ?_
        refine wp_if_eq 64 dX5_clientPart_47 rfl ⟨by omega, by omega⟩ (fun c47 => absurd c47 (by omega)) (fun c47 => ?_)
        refine wp_aload_n dX5_clientPart_50 rfl ?_
        refine sa_get hS dX5_clientPart_51 fX5_11 ?_
        refine wp_iload_n dX5_clientPart_54 rfl ?_
        refine wp_iconst dX5_clientPart_55 ?_
        refine wp_iadd dX5_clientPart_56 ?_
        refine sa_ld (v := g (cA c + 3)) hS dX5_clientPart_57 (by decide) (by omega) rfl ?_
        refine wp_if_ne 64 dX5_clientPart_58 rfl (by first | assumption | exact hR _ | exact hR2 _ | exact bI_r _ | (unfold r32; omega)) (fun c58 => ?_) (fun c58 => ?_)
        · refine wp_aload_n dX5_clientPart_64 rfl ?_
          refine sa_get hS dX5_clientPart_65 fX5_11 ?_
          refine wp_iload_n dX5_clientPart_68 rfl ?_
          refine wp_iload_n dX5_clientPart_69 rfl ?_
          refine wp_iadd dX5_clientPart_70 ?_
          refine sa_ld (v := g (cA c + i)) hS dX5_clientPart_71 (by decide) (by omega) rfl ?_
          exact wp_iret dX5_clientPart_72 rfl (by have e : wCp g c i = _ := (if_neg c6).trans ((if_neg c18).trans ((if_neg c42).trans (if_neg c58))); rw [e] at hQ; exact hQ)
        · refine wp_bipush dX5_clientPart_61 rfl ?_
          exact wp_iret dX5_clientPart_63 rfl (by have e : wCp g c i = _ := (if_neg c6).trans ((if_neg c18).trans ((if_neg c42).trans (if_pos c58))); rw [e] at hQ; exact hQ)
def wHf (g : Int → Int) (c k : Int) : Int := if g (cA c + 7) = 1 then if g (cA c + 1) = k then 1 else 0 else 0
set_option maxHeartbeats 2000000 in
theorem C_whasHandFor {c k : Int} (hS : SA 5 p q h) (hI : IW B g) (hBB : B + 1000 ≤ 1000000000) (hc : 0 ≤ c ∧ c < 6) (hk : 0 ≤ k ∧ k < 10) (hQ : Q (some (vI (wHf g c k))) (h.set q (oI 1060 g))) : Cl X kX5_hasHandFor [vR p, vI c, vI k] (h.set q (oI 1060 g)) Q := by
  refine cl_of rfl (Nat.le_of_ble_eq_true rfl) rfl ?_
  have hR := hI.r (by omega)
  have hb1 := cA_b hc
  refine wp_iload_n dX5_hasHandFor_0 rfl ?_
  refine wp_is1 dX5_hasHandFor_1 SX5_handAt lX5_24 (rq0 rfl rfl) (Nat.le_of_ble_eq_true rfl) (C_whandAt ?_)
  dsimp only [pushR]
  refine wp_istore_n (L' := [some (vR p), some (vI c), some (vI k), some (vI (cA c))]) dX5_hasHandFor_4 (by decide) rfl ?_
  refine wp_aload_n dX5_hasHandFor_5 rfl ?_
  refine sa_get hS dX5_hasHandFor_6 fX5_11 ?_
  refine wp_iload_n dX5_hasHandFor_9 rfl ?_
  refine wp_bipush dX5_hasHandFor_10 rfl ?_
  refine wp_iadd dX5_hasHandFor_12 ?_
  refine sa_ld (v := g (cA c + 7)) hS dX5_hasHandFor_13 (by decide) (by omega) rfl ?_
  refine wp_iconst dX5_hasHandFor_14 ?_
  refine wp_icmp_ne 34 dX5_hasHandFor_15 rfl (by first | assumption | exact hR _ | exact hR2 _ | exact bI_r _ | (unfold r32; omega)) ⟨by omega, by omega⟩ (fun c15 => ?_) (fun c15 => ?_)
  · refine wp_iconst dX5_hasHandFor_34 ?_
    exact wp_zret dX5_hasHandFor_35 rfl (Or.inl rfl) (by have e : wHf g c k = _ := if_neg c15; rw [e] at hQ; exact hQ)
  · refine wp_aload_n dX5_hasHandFor_18 rfl ?_
    refine sa_get hS dX5_hasHandFor_19 fX5_11 ?_
    refine wp_iload_n dX5_hasHandFor_22 rfl ?_
    refine wp_iconst dX5_hasHandFor_23 ?_
    refine wp_iadd dX5_hasHandFor_24 ?_
    refine sa_ld (v := g (cA c + 1)) hS dX5_hasHandFor_25 (by decide) (by omega) rfl ?_
    refine wp_iload_n dX5_hasHandFor_26 rfl ?_
    refine wp_icmp_ne 34 dX5_hasHandFor_27 rfl (by first | assumption | exact hR _ | exact hR2 _ | exact bI_r _ | (unfold r32; omega)) (by first | assumption | exact hR _ | exact hR2 _ | exact bI_r _ | (unfold r32; omega)) (fun c27 => ?_) (fun c27 => ?_)
    · refine wp_iconst dX5_hasHandFor_34 ?_
      exact wp_zret dX5_hasHandFor_35 rfl (Or.inl rfl) (by have e : wHf g c k = _ := (if_pos c15).trans (if_neg c27); rw [e] at hQ; exact hQ)
    · refine wp_iconst dX5_hasHandFor_30 ?_
      refine wp_goto 35 dX5_hasHandFor_31 rfl ?_
      exact wp_zret dX5_hasHandFor_35 rfl (Or.inr rfl) (by have e : wHf g c k = _ := (if_pos c15).trans (if_pos c27); rw [e] at hQ; exact hQ)
def wWw (g : Int → Int) (n k v : Int) : Int := if n = 0 then if v = 0 then 1 else 0 else if g (jA n + 0) = k then if g (jA n + 1) = v then 1 else 0 else 0
set_option maxHeartbeats 2000000 in
theorem C_wwasWritten {n k v : Int} (hS : SA 5 p q h) (hI : IW B g) (hBB : B + 1000 ≤ 1000000000) (hn : 0 ≤ n ∧ n ≤ 60) (hk : 0 ≤ k ∧ k < 10) (hv : r32 v) (hQ : Q (some (vI (wWw g n k v))) (h.set q (oI 1060 g))) : Cl X kX5_wasWritten [vR p, vI n, vI k, vI v] (h.set q (oI 1060 g)) Q := by
  refine cl_of rfl (Nat.le_of_ble_eq_true rfl) rfl ?_
  have hR := hI.r (by omega)
  refine wp_iload_n dX5_wasWritten_0 rfl ?_
  refine wp_if_ne 14 dX5_wasWritten_1 rfl (by first | assumption | exact hR _ | exact hR2 _ | exact bI_r _ | (unfold r32; omega)) (fun c1 => ?_) (fun c1 => ?_)
  · have hb1 : n ≠ 0 → 112 ≤ jA n ∧ jA n + 3 ≤ 292 := fun q => jA_b (by omega)
    refine wp_iload_n dX5_wasWritten_14 rfl ?_
    refine wp_is1 dX5_wasWritten_15 SX5_writeAt lX5_42 (rq0 rfl rfl) (Nat.le_of_ble_eq_true rfl) (C_wwriteAt ?_)
    dsimp only [pushR]
    refine wp_istore (L' := [some (vR p), some (vI n), some (vI k), some (vI v), some (vI (jA n))]) dX5_wasWritten_18 (by decide) rfl ?_
    refine wp_aload_n dX5_wasWritten_20 rfl ?_
    refine sa_get hS dX5_wasWritten_21 fX5_11 ?_
    refine wp_iload dX5_wasWritten_24 rfl ?_
    refine wp_iconst dX5_wasWritten_26 ?_
    refine wp_iadd dX5_wasWritten_27 ?_
    refine sa_ld (v := g (jA n + 0)) hS dX5_wasWritten_28 (by decide) (by omega) rfl ?_
    refine wp_iload_n dX5_wasWritten_29 rfl ?_
    refine wp_icmp_ne 50 dX5_wasWritten_30 rfl (by first | assumption | exact hR _ | exact hR2 _ | exact bI_r _ | (unfold r32; omega)) (by first | assumption | exact hR _ | exact hR2 _ | exact bI_r _ | (unfold r32; omega)) (fun c30 => ?_) (fun c30 => ?_)
    · refine wp_iconst dX5_wasWritten_50 ?_
      exact wp_zret dX5_wasWritten_51 rfl (Or.inl rfl) (by have e : wWw g n k v = _ := (if_neg c1).trans (if_neg c30); rw [e] at hQ; exact hQ)
    · refine wp_aload_n dX5_wasWritten_33 rfl ?_
      refine sa_get hS dX5_wasWritten_34 fX5_11 ?_
      refine wp_iload dX5_wasWritten_37 rfl ?_
      refine wp_iconst dX5_wasWritten_39 ?_
      refine wp_iadd dX5_wasWritten_40 ?_
      refine sa_ld (v := g (jA n + 1)) hS dX5_wasWritten_41 (by decide) (by omega) rfl ?_
      refine wp_iload_n dX5_wasWritten_42 rfl ?_
      refine wp_icmp_ne 50 dX5_wasWritten_43 rfl (by first | assumption | exact hR _ | exact hR2 _ | exact bI_r _ | (unfold r32; omega)) (by first | assumption | exact hR _ | exact hR2 _ | exact bI_r _ | (unfold r32; omega)) (fun c43 => ?_) (fun c43 => ?_)
      · refine wp_iconst dX5_wasWritten_50 ?_
        exact wp_zret dX5_wasWritten_51 rfl (Or.inl rfl) (by have e : wWw g n k v = _ := (if_neg c1).trans ((if_pos c30).trans (if_neg c43)); rw [e] at hQ; exact hQ)
      · refine wp_iconst dX5_wasWritten_46 ?_
        refine wp_goto 51 dX5_wasWritten_47 rfl ?_
        exact wp_zret dX5_wasWritten_51 rfl (Or.inr rfl) (by have e : wWw g n k v = _ := (if_neg c1).trans ((if_pos c30).trans (if_pos c43)); rw [e] at hQ; exact hQ)
  · have hb1 : n ≠ 0 → 112 ≤ jA n ∧ jA n + 3 ≤ 292 := fun q => jA_b (by omega)
    refine wp_iload_n dX5_wasWritten_4 rfl ?_
    refine wp_if_ne 12 dX5_wasWritten_5 rfl (by first | assumption | exact hR _ | exact hR2 _ | exact bI_r _ | (unfold r32; omega)) (fun c5 => ?_) (fun c5 => ?_)
    · refine wp_iconst dX5_wasWritten_12 ?_
      exact wp_zret dX5_wasWritten_13 rfl (Or.inl rfl) (by have e : wWw g n k v = _ := (if_pos c1).trans (if_neg c5); rw [e] at hQ; exact hQ)
    · refine wp_iconst dX5_wasWritten_8 ?_
      refine wp_goto 13 dX5_wasWritten_9 rfl ?_
      exact wp_zret dX5_wasWritten_13 rfl (Or.inr rfl) (by have e : wWw g n k v = _ := (if_pos c1).trans (if_pos c5); rw [e] at hQ; exact hQ)
def wWb (g : Int → Int) (n c k : Int) : Int := if g (jA n + 0) = k then if g (jA n + 2) = c then 1 else 0 else 0
set_option maxHeartbeats 2000000 in
theorem C_wisWriteBy {n c k : Int} (hS : SA 5 p q h) (hI : IW B g) (hBB : B + 1000 ≤ 1000000000) (hn : 1 ≤ n ∧ n ≤ 60) (hk : 0 ≤ k ∧ k < 10) (hc : 0 ≤ c ∧ c < 6) (hQ : Q (some (vI (wWb g n c k))) (h.set q (oI 1060 g))) : Cl X kX5_isWriteBy [vR p, vI n, vI c, vI k] (h.set q (oI 1060 g)) Q := by
  refine cl_of rfl (Nat.le_of_ble_eq_true rfl) rfl ?_
  have hR := hI.r (by omega)
  have hb1 := jA_b hn
  refine wp_iload_n dX5_isWriteBy_0 rfl ?_
  refine wp_is1 dX5_isWriteBy_1 SX5_writeAt lX5_42 (rq0 rfl rfl) (Nat.le_of_ble_eq_true rfl) (C_wwriteAt ?_)
  dsimp only [pushR]
  refine wp_istore (L' := [some (vR p), some (vI n), some (vI c), some (vI k), some (vI (jA n))]) dX5_isWriteBy_4 (by decide) rfl ?_
  refine wp_aload_n dX5_isWriteBy_6 rfl ?_
  refine sa_get hS dX5_isWriteBy_7 fX5_11 ?_
  refine wp_iload dX5_isWriteBy_10 rfl ?_
  refine wp_iconst dX5_isWriteBy_12 ?_
  refine wp_iadd dX5_isWriteBy_13 ?_
  refine sa_ld (v := g (jA n + 0)) hS dX5_isWriteBy_14 (by decide) (by omega) rfl ?_
  refine wp_iload_n dX5_isWriteBy_15 rfl ?_
  refine wp_icmp_ne 36 dX5_isWriteBy_16 rfl (by first | assumption | exact hR _ | exact hR2 _ | exact bI_r _ | (unfold r32; omega)) (by first | assumption | exact hR _ | exact hR2 _ | exact bI_r _ | (unfold r32; omega)) (fun c16 => ?_) (fun c16 => ?_)
  · refine wp_iconst dX5_isWriteBy_36 ?_
    exact wp_zret dX5_isWriteBy_37 rfl (Or.inl rfl) (by have e : wWb g n c k = _ := if_neg c16; rw [e] at hQ; exact hQ)
  · refine wp_aload_n dX5_isWriteBy_19 rfl ?_
    refine sa_get hS dX5_isWriteBy_20 fX5_11 ?_
    refine wp_iload dX5_isWriteBy_23 rfl ?_
    refine wp_iconst dX5_isWriteBy_25 ?_
    refine wp_iadd dX5_isWriteBy_26 ?_
    refine sa_ld (v := g (jA n + 2)) hS dX5_isWriteBy_27 (by decide) (by omega) rfl ?_
    refine wp_iload_n dX5_isWriteBy_28 rfl ?_
    refine wp_icmp_ne 36 dX5_isWriteBy_29 rfl (by first | assumption | exact hR _ | exact hR2 _ | exact bI_r _ | (unfold r32; omega)) (by first | assumption | exact hR _ | exact hR2 _ | exact bI_r _ | (unfold r32; omega)) (fun c29 => ?_) (fun c29 => ?_)
    · refine wp_iconst dX5_isWriteBy_36 ?_
      exact wp_zret dX5_isWriteBy_37 rfl (Or.inl rfl) (by have e : wWb g n c k = _ := (if_pos c16).trans (if_neg c29); rw [e] at hQ; exact hQ)
    · refine wp_iconst dX5_isWriteBy_32 ?_
      refine wp_goto 37 dX5_isWriteBy_33 rfl ?_
      exact wp_zret dX5_isWriteBy_37 rfl (Or.inr rfl) (by have e : wWb g n c k = _ := (if_pos c16).trans (if_pos c29); rw [e] at hQ; exact hQ)
theorem xv5 {i : Int} (h : 0 ≤ i ∧ i < 6) : xv 5 i = (if i < 2 then 7 else if i < 5 then 10 else 11) := by
  rcases (by omega : i = 0 ∨ i = 1 ∨ i = 2 ∨ i = 3 ∨ i = 4 ∨ i = 5) with rfl | rfl | rfl | rfl | rfl | rfl <;> rfl
theorem xv5_b {i : Int} (h : 0 ≤ i ∧ i < 6) : 7 ≤ xv 5 i ∧ xv 5 i ≤ 11 := by
  rw [xv5 h]; split <;> (try split) <;> omega
def wBp (g : Int → Int) (a k i : Int) : Int := if g 0 < g (sA a k + xv 5 i) then g (sA a k + 6 + i) else (-2)
set_option maxHeartbeats 2000000 in
theorem C_wbesidePart {a k i : Int} (hS : SA 5 p q h) (hI : IW B g) (hBB : B + 1000 ≤ 1000000000) (ha : 0 ≤ a ∧ a < 6) (hk : 0 ≤ k ∧ k < 10) (hi : 0 ≤ i ∧ i < 6) (hQ : Q (some (vI (wBp g a k i))) (h.set q (oI 1060 g))) : Cl X kX5_besidePart [vR p, vI a, vI k, vI i] (h.set q (oI 1060 g)) Q := by
  refine cl_of rfl (Nat.le_of_ble_eq_true rfl) rfl ?_
  have hR := hI.r (by omega)
  have hb1 := sA_b ha hk
  have hb2 := xv5_b hi
  refine wp_iload_n dX5_besidePart_0 rfl ?_
  refine wp_iload_n dX5_besidePart_1 rfl ?_
  refine wp_is2 dX5_besidePart_2 SX5_spotAt lX5_31 (rq0 rfl rfl) (Nat.le_of_ble_eq_true rfl) (C_wspotAt ?_)
  dsimp only [pushR]
  refine wp_istore (L' := [some (vR p), some (vI a), some (vI k), some (vI i), some (vI (sA a k))]) dX5_besidePart_5 (by decide) rfl ?_
  refine wp_aload_n dX5_besidePart_7 rfl ?_
  refine wp_iload dX5_besidePart_8 rfl ?_
  refine wp_gets 5 dX5_besidePart_10 wsX5_39 (by decide) ?_
  refine wp_iload_n dX5_besidePart_13 rfl ?_
  refine wp_xld 5 dX5_besidePart_14 (by decide) (by show 0 ≤ i ∧ i < ((6 : Nat) : Int); omega) ?_
  refine wp_iadd dX5_besidePart_15 ?_
  refine sa_i1 hS dX5_besidePart_16 VX5_isAhead lX5_35 (rq0 rfl rfl) (Nat.le_of_ble_eq_true rfl) (C_wisAhead (v0 := g 0) (v1 := g (sA a k + xv 5 i)) hS (by omega) rfl rfl (by first | assumption | exact hR _ | exact hR2 _ | exact bI_r _ | (unfold r32; omega)) (by first | assumption | exact hR _ | exact hR2 _ | exact bI_r _ | (unfold r32; omega)) ?_)
  dsimp only [pushR]
  refine wp_beq 37 dX5_besidePart_19 rfl (fun c19 => ?_) (fun c19 => ?_)
  · refine wp_bipush dX5_besidePart_37 rfl ?_
    exact wp_iret dX5_besidePart_39 rfl (by have e : wBp g a k i = _ := if_neg c19; rw [e] at hQ; exact hQ)
  · refine wp_aload_n dX5_besidePart_22 rfl ?_
    refine sa_get hS dX5_besidePart_23 fX5_11 ?_
    refine wp_iload dX5_besidePart_26 rfl ?_
    refine wp_bipush dX5_besidePart_28 rfl ?_
    refine wp_iadd dX5_besidePart_30 ?_
    refine wp_iload_n dX5_besidePart_31 rfl ?_
    refine wp_iadd dX5_besidePart_32 ?_
    refine sa_ld (v := g (sA a k + 6 + i)) hS dX5_besidePart_33 (by decide) (by omega) rfl ?_
    refine wp_goto 39 dX5_besidePart_34 rfl ?_
    exact wp_iret dX5_besidePart_39 rfl (by have e : wBp g a k i = _ := if_pos c19; rw [e] at hQ; exact hQ)
theorem C_wendOfDue {n : Int} (hn : 0 ≤ n) (hr : r32 n) (hQ : Q (some (vI (n / 240))) h) : Cl X kX5_endOfDue [vI n] h Q := by
  refine cl_of rfl (Nat.le_of_ble_eq_true rfl) rfl ?_
  refine wp_iload_n dX5_endOfDue_0 rfl ?_
  refine wp_sipush dX5_endOfDue_1 rfl ?_
  refine wp_idivn dX5_endOfDue_4 (by first | assumption | exact hR _ | exact hR2 _ | exact bI_r _ | (unfold r32; omega)) ⟨by omega, by omega⟩ (by omega) (by omega) ?_
  exact wp_iret dX5_endOfDue_5 rfl hQ
theorem C_wkindOfDue {n : Int} (hn : 0 ≤ n) (hr : r32 n) (hQ : Q (some (vI (n / 60 % 4))) h) : Cl X kX5_kindOfDue [vI n] h Q := by
  refine cl_of rfl (Nat.le_of_ble_eq_true rfl) rfl ?_
  refine wp_iload_n dX5_kindOfDue_0 rfl ?_
  refine wp_bipush dX5_kindOfDue_1 rfl ?_
  refine wp_idivn dX5_kindOfDue_3 (by first | assumption | exact hR _ | exact hR2 _ | exact bI_r _ | (unfold r32; omega)) ⟨by omega, by omega⟩ (by omega) (by omega) ?_
  refine wp_iconst dX5_kindOfDue_4 ?_
  refine wp_iremn dX5_kindOfDue_5 (by first | assumption | exact hR _ | exact hR2 _ | exact bI_r _ | (unfold r32; omega)) ⟨by omega, by omega⟩ (by omega) (by omega) ?_
  exact wp_iret dX5_kindOfDue_6 rfl hQ
theorem C_wspotOfDue {n : Int} (hn : 0 ≤ n) (hr : r32 n) (hQ : Q (some (vI (n % 60 / 10 * 100 + n % 60 % 10))) h) : Cl X kX5_spotOfDue [vI n] h Q := by
  refine cl_of rfl (Nat.le_of_ble_eq_true rfl) rfl ?_
  refine wp_iload_n dX5_spotOfDue_0 rfl ?_
  refine wp_bipush dX5_spotOfDue_1 rfl ?_
  refine wp_iremn dX5_spotOfDue_3 (by first | assumption | exact hR _ | exact hR2 _ | exact bI_r _ | (unfold r32; omega)) ⟨by omega, by omega⟩ (by omega) (by omega) ?_
  refine wp_istore_n (L' := [some (vI n), some (vI (n % 60))]) dX5_spotOfDue_4 (by decide) rfl ?_
  refine wp_iload_n dX5_spotOfDue_5 rfl ?_
  refine wp_bipush dX5_spotOfDue_6 rfl ?_
  refine wp_idivn dX5_spotOfDue_8 (by first | assumption | exact hR _ | exact hR2 _ | exact bI_r _ | (unfold r32; omega)) ⟨by omega, by omega⟩ (by omega) (by omega) ?_
  refine wp_bipush dX5_spotOfDue_9 rfl ?_
  refine wp_imul dX5_spotOfDue_11 ?_
  refine wp_iload_n dX5_spotOfDue_12 rfl ?_
  refine wp_bipush dX5_spotOfDue_13 rfl ?_
  refine wp_iremn dX5_spotOfDue_15 (by first | assumption | exact hR _ | exact hR2 _ | exact bI_r _ | (unfold r32; omega)) ⟨by omega, by omega⟩ (by omega) (by omega) ?_
  refine wp_iadd dX5_spotOfDue_16 ?_
  exact wp_iret dX5_spotOfDue_17 rfl hQ
theorem r01 {z : Int} (h : z = 0 ∨ z = 1) : r32 z := by rcases h with rfl | rfl <;> unfold r32 <;> omega
theorem hk_b {k : Int} {m : Nat} {n : Int} (h1 : k + ((m + 1 : Nat) : Int) = n) : k < n := by omega
def wAlL (g : Int → Int)  : Nat → Int → Int → Int
  | 0, _, n => n
  | m + 1, k, n => wAlL g m (k + 1) (n + g (33 + k))
set_option maxHeartbeats 2000000 in
theorem lp_wAlL {b : Nat × Nat} (hS : SA 5 p q h) (hR : ∀ j, r32 (g j))  : ∀ (m : Nat) (k n : Int), k + m = 3 → 0 ≤ k → Q (some (vI (wAlL g m k n))) (h.set q (oI 1060 g)) → Wp X kX5_allLoads 4 [some (vR p), some (vI n), some (vI k)] [] (h.set q (oI 1060 g)) b Q := by
  intro m
  induction m with
  | zero =>
    intro k n h1 h3 hQ
    obtain rfl : k = 3 := by omega
    refine wp_iload_n dX5_allLoads_4 rfl ?_
    refine wp_iconst dX5_allLoads_5 ?_
    refine wp_icmp_ge 23 dX5_allLoads_6 rfl (by first | assumption | exact hR _ | exact hR2 _ | exact bI_r _ | (unfold r32; omega)) ⟨by omega, by omega⟩ (fun c6 => ?_) (fun c6 => ?_)
    · refine wp_iload_n dX5_allLoads_23 rfl ?_
      exact wp_iret dX5_allLoads_24 rfl (by have e : wAlL g 0 3 n = _ := rfl; rw [e] at hQ; exact hQ)
    · omega
  | succ m ih =>
    intro k n h1 h3 hQ
    refine wp_iload_n dX5_allLoads_4 rfl ?_
    refine wp_iconst dX5_allLoads_5 ?_
    refine wp_icmp_ge 23 dX5_allLoads_6 rfl (by first | assumption | exact hR _ | exact hR2 _ | exact bI_r _ | (unfold r32; omega)) ⟨by omega, by omega⟩ (fun c6 => ?_) (fun c6 => ?_)
    · omega
    · refine wp_iload_n dX5_allLoads_9 rfl ?_
      refine wp_aload_n dX5_allLoads_10 rfl ?_
      refine wp_iload_n dX5_allLoads_11 rfl ?_
      refine sa_i1 hS dX5_allLoads_12 VX5_loadsOf lX5_28 (rq0 rfl rfl) (Nat.le_of_ble_eq_true rfl) (C_wloadsOf (v := g (33 + k)) hS (by omega) rfl ?_)
      dsimp only [pushR]
      refine wp_iadd dX5_allLoads_15 ?_
      refine wp_istore_n (L' := [some (vR p), some (vI (n + g (33 + k))), some (vI k)]) dX5_allLoads_16 (by decide) rfl ?_
      refine wp_iinc (L' := [some (vR p), some (vI (n + g (33 + k))), some (vI (k + 1))]) dX5_allLoads_17 rfl rfl ?_
      refine wp_goto 4 dX5_allLoads_20 rfl ?_
      exact ih _ _ (by omega) (by omega) (by have e : wAlL g (m + 1) k n = _ := rfl; rw [e] at hQ; exact hQ)
def wAl (g : Int → Int)  : Int := wAlL g  3 0 0
set_option maxHeartbeats 2000000 in
theorem C_wallLoads (hS : SA 5 p q h) (hI : IW B g) (hBB : B + 1000 ≤ 1000000000)  (hQ : Q (some (vI (wAl g))) (h.set q (oI 1060 g))) : Cl X kX5_allLoads [vR p] (h.set q (oI 1060 g)) Q := by
  refine cl_of rfl (Nat.le_of_ble_eq_true rfl) rfl ?_
  have hR := hI.r (by omega)
  refine wp_iconst dX5_allLoads_0 ?_
  refine wp_istore_n (L' := [some (vR p), some (vI 0), none]) dX5_allLoads_1 (by decide) rfl ?_
  refine wp_iconst dX5_allLoads_2 ?_
  refine wp_istore_n (L' := [some (vR p), some (vI 0), some (vI 0)]) dX5_allLoads_3 (by decide) rfl ?_
  exact lp_wAlL hS hR  3 0 0 (by omega) (by omega) hQ
def wHdL (g : Int → Int)  : Nat → Int → Int → Int
  | 0, _, n => n
  | m + 1, k, n => wHdL g m (k + 1) (n + g (cA k + 7))
set_option maxHeartbeats 2000000 in
theorem lp_wHdL {b : Nat × Nat} (hS : SA 5 p q h) (hR : ∀ j, r32 (g j))  : ∀ (m : Nat) (k n : Int), k + m = 6 → 0 ≤ k → Q (some (vI (wHdL g m k n))) (h.set q (oI 1060 g)) → Wp X kX5_hands 4 [some (vR p), some (vI n), some (vI k)] [] (h.set q (oI 1060 g)) b Q := by
  intro m
  induction m with
  | zero =>
    intro k n h1 h3 hQ
    obtain rfl : k = 6 := by omega
    refine wp_iload_n dX5_hands_4 rfl ?_
    refine wp_bipush dX5_hands_5 rfl ?_
    refine wp_icmp_ge 31 dX5_hands_7 rfl (by first | assumption | exact hR _ | exact hR2 _ | exact bI_r _ | (unfold r32; omega)) ⟨by omega, by omega⟩ (fun c7 => ?_) (fun c7 => ?_)
    · refine wp_iload_n dX5_hands_31 rfl ?_
      exact wp_iret dX5_hands_32 rfl (by have e : wHdL g 0 6 n = _ := rfl; rw [e] at hQ; exact hQ)
    · omega
  | succ m ih =>
    intro k n h1 h3 hQ
    have hb1 := cA_b (c := k) ⟨h3, by omega⟩
    refine wp_iload_n dX5_hands_4 rfl ?_
    refine wp_bipush dX5_hands_5 rfl ?_
    refine wp_icmp_ge 31 dX5_hands_7 rfl (by first | assumption | exact hR _ | exact hR2 _ | exact bI_r _ | (unfold r32; omega)) ⟨by omega, by omega⟩ (fun c7 => ?_) (fun c7 => ?_)
    · omega
    · refine wp_iload_n dX5_hands_10 rfl ?_
      refine wp_aload_n dX5_hands_11 rfl ?_
      refine sa_get hS dX5_hands_12 fX5_11 ?_
      refine wp_iload_n dX5_hands_15 rfl ?_
      refine wp_is1 dX5_hands_16 SX5_handAt lX5_24 (rq0 rfl rfl) (Nat.le_of_ble_eq_true rfl) (C_whandAt ?_)
      dsimp only [pushR]
      refine wp_bipush dX5_hands_19 rfl ?_
      refine wp_iadd dX5_hands_21 ?_
      refine sa_ld (v := g (cA k + 7)) hS dX5_hands_22 (by decide) (by omega) rfl ?_
      refine wp_iadd dX5_hands_23 ?_
      refine wp_istore_n (L' := [some (vR p), some (vI (n + g (cA k + 7))), some (vI k)]) dX5_hands_24 (by decide) rfl ?_
      refine wp_iinc (L' := [some (vR p), some (vI (n + g (cA k + 7))), some (vI (k + 1))]) dX5_hands_25 rfl rfl ?_
      refine wp_goto 4 dX5_hands_28 rfl ?_
      exact ih _ _ (by omega) (by omega) (by have e : wHdL g (m + 1) k n = _ := rfl; rw [e] at hQ; exact hQ)
def wHd (g : Int → Int)  : Int := wHdL g  6 0 0
set_option maxHeartbeats 2000000 in
theorem C_whands (hS : SA 5 p q h) (hI : IW B g) (hBB : B + 1000 ≤ 1000000000)  (hQ : Q (some (vI (wHd g))) (h.set q (oI 1060 g))) : Cl X kX5_hands [vR p] (h.set q (oI 1060 g)) Q := by
  refine cl_of rfl (Nat.le_of_ble_eq_true rfl) rfl ?_
  have hR := hI.r (by omega)
  refine wp_iconst dX5_hands_0 ?_
  refine wp_istore_n (L' := [some (vR p), some (vI 0), none]) dX5_hands_1 (by decide) rfl ?_
  refine wp_iconst dX5_hands_2 ?_
  refine wp_istore_n (L' := [some (vR p), some (vI 0), some (vI 0)]) dX5_hands_3 (by decide) rfl ?_
  exact lp_wHdL hS hR  6 0 0 (by omega) (by omega) hQ
def wMkL (g : Int → Int)  : Nat → Int → Int → Int
  | 0, _, n => n
  | m + 1, k, n => if g (42 + k) ≤ 0 then wMkL g m (k + 1) n else wMkL g m (k + 1) (n + 1)
set_option maxHeartbeats 2000000 in
theorem lp_wMkL {b : Nat × Nat} (hS : SA 5 p q h) (hR : ∀ j, r32 (g j))  : ∀ (m : Nat) (k n : Int), k + m = 30 → 0 ≤ k → Q (some (vI (wMkL g m k n))) (h.set q (oI 1060 g)) → Wp X kX5_markers 4 [some (vR p), some (vI n), some (vI k)] [] (h.set q (oI 1060 g)) b Q := by
  intro m
  induction m with
  | zero =>
    intro k n h1 h3 hQ
    obtain rfl : k = 30 := by omega
    refine wp_iload_n dX5_markers_4 rfl ?_
    refine wp_bipush dX5_markers_5 rfl ?_
    refine wp_icmp_ge 31 dX5_markers_7 rfl (by first | assumption | exact hR _ | exact hR2 _ | exact bI_r _ | (unfold r32; omega)) ⟨by omega, by omega⟩ (fun c7 => ?_) (fun c7 => ?_)
    · refine wp_iload_n dX5_markers_31 rfl ?_
      exact wp_iret dX5_markers_32 rfl (by have e : wMkL g 0 30 n = _ := rfl; rw [e] at hQ; exact hQ)
    · omega
  | succ m ih =>
    intro k n h1 h3 hQ
    refine wp_iload_n dX5_markers_4 rfl ?_
    refine wp_bipush dX5_markers_5 rfl ?_
    refine wp_icmp_ge 31 dX5_markers_7 rfl (by first | assumption | exact hR _ | exact hR2 _ | exact bI_r _ | (unfold r32; omega)) ⟨by omega, by omega⟩ (fun c7 => ?_) (fun c7 => ?_)
    · omega
    · refine wp_aload_n dX5_markers_10 rfl ?_
      refine sa_get hS dX5_markers_11 fX5_11 ?_
      refine wp_bipush dX5_markers_14 rfl ?_
      refine wp_iload_n dX5_markers_16 rfl ?_
      refine wp_iadd dX5_markers_17 ?_
      refine sa_ld (v := g (42 + k)) hS dX5_markers_18 (by decide) (by omega) rfl ?_
      refine wp_if_le 25 dX5_markers_19 rfl (by first | assumption | exact hR _ | exact hR2 _ | exact bI_r _ | (unfold r32; omega)) (fun c19 => ?_) (fun c19 => ?_)
      · refine wp_iinc (L' := [some (vR p), some (vI n), some (vI (k + 1))]) dX5_markers_25 rfl rfl ?_
        refine wp_goto 4 dX5_markers_28 rfl ?_
        exact ih _ _ (by omega) (by omega) (by have e : wMkL g (m + 1) k n = _ := if_pos c19; rw [e] at hQ; exact hQ)
      · refine wp_iinc (L' := [some (vR p), some (vI (n + 1)), some (vI k)]) dX5_markers_22 rfl rfl ?_
        refine wp_iinc (L' := [some (vR p), some (vI (n + 1)), some (vI (k + 1))]) dX5_markers_25 rfl rfl ?_
        refine wp_goto 4 dX5_markers_28 rfl ?_
        exact ih _ _ (by omega) (by omega) (by have e : wMkL g (m + 1) k n = _ := if_neg c19; rw [e] at hQ; exact hQ)
def wMk (g : Int → Int)  : Int := wMkL g  30 0 0
set_option maxHeartbeats 2000000 in
theorem C_wmarkers (hS : SA 5 p q h) (hI : IW B g) (hBB : B + 1000 ≤ 1000000000)  (hQ : Q (some (vI (wMk g))) (h.set q (oI 1060 g))) : Cl X kX5_markers [vR p] (h.set q (oI 1060 g)) Q := by
  refine cl_of rfl (Nat.le_of_ble_eq_true rfl) rfl ?_
  have hR := hI.r (by omega)
  refine wp_iconst dX5_markers_0 ?_
  refine wp_istore_n (L' := [some (vR p), some (vI 0), none]) dX5_markers_1 (by decide) rfl ?_
  refine wp_iconst dX5_markers_2 ?_
  refine wp_istore_n (L' := [some (vR p), some (vI 0), some (vI 0)]) dX5_markers_3 (by decide) rfl ?_
  exact lp_wMkL hS hR  30 0 0 (by omega) (by omega) hQ
def wCtL (g : Int → Int) (e : Int) : Nat → Int → Int → Int
  | 0, _, n => n
  | m + 1, k, n => if g 0 < g (340 + k * 12 + e) then wCtL g e m (k + 1) (n + 1) else wCtL g e m (k + 1) n
set_option maxHeartbeats 2000000 in
theorem lp_wCtL {b : Nat × Nat} {e : Int} (hS : SA 5 p q h) (hR : ∀ j, r32 (g j)) (he : 0 ≤ e ∧ e < 12) : ∀ (m : Nat) (k n : Int), k + m = 60 → 0 ≤ k → Q (some (vI (wCtL g e m k n))) (h.set q (oI 1060 g)) → Wp X kX5_countThere 4 [some (vR p), some (vI e), some (vI n), some (vI k)] [] (h.set q (oI 1060 g)) b Q := by
  intro m
  induction m with
  | zero =>
    intro k n h1 h3 hQ
    obtain rfl : k = 60 := by omega
    refine wp_iload_n dX5_countThere_4 rfl ?_
    refine wp_bipush dX5_countThere_5 rfl ?_
    refine wp_icmp_ge 36 dX5_countThere_7 rfl (by first | assumption | exact hR _ | exact hR2 _ | exact bI_r _ | (unfold r32; omega)) ⟨by omega, by omega⟩ (fun c7 => ?_) (fun c7 => ?_)
    · refine wp_iload_n dX5_countThere_36 rfl ?_
      exact wp_iret dX5_countThere_37 rfl (by have e : wCtL g e 0 60 n = _ := rfl; rw [e] at hQ; exact hQ)
    · omega
  | succ m ih =>
    intro k n h1 h3 hQ
    refine wp_iload_n dX5_countThere_4 rfl ?_
    refine wp_bipush dX5_countThere_5 rfl ?_
    refine wp_icmp_ge 36 dX5_countThere_7 rfl (by first | assumption | exact hR _ | exact hR2 _ | exact bI_r _ | (unfold r32; omega)) ⟨by omega, by omega⟩ (fun c7 => ?_) (fun c7 => ?_)
    · omega
    · refine wp_aload_n dX5_countThere_10 rfl ?_
      refine wp_sipush dX5_countThere_11 rfl ?_
      refine wp_iload_n dX5_countThere_14 rfl ?_
      refine wp_bipush dX5_countThere_15 rfl ?_
      refine wp_imul dX5_countThere_17 ?_
      refine wp_iadd dX5_countThere_18 ?_
      refine wp_iload_n dX5_countThere_19 rfl ?_
      refine wp_iadd dX5_countThere_20 ?_
      refine sa_i1 hS dX5_countThere_21 VX5_isAhead lX5_35 (rq0 rfl rfl) (Nat.le_of_ble_eq_true rfl) (C_wisAhead (v0 := g 0) (v1 := g (340 + k * 12 + e)) hS (by omega) rfl rfl (by first | assumption | exact hR _ | exact hR2 _ | exact bI_r _ | (unfold r32; omega)) (by first | assumption | exact hR _ | exact hR2 _ | exact bI_r _ | (unfold r32; omega)) ?_)
      dsimp only [pushR]
      refine wp_beq 30 dX5_countThere_24 rfl (fun c24 => ?_) (fun c24 => ?_)
      · refine wp_iinc (L' := [some (vR p), some (vI e), some (vI n), some (vI (k + 1))]) dX5_countThere_30 rfl rfl ?_
        refine wp_goto 4 dX5_countThere_33 rfl ?_
        exact ih _ _ (by omega) (by omega) (by have e : wCtL g e (m + 1) k n = _ := if_neg c24; rw [e] at hQ; exact hQ)
      · refine wp_iinc (L' := [some (vR p), some (vI e), some (vI (n + 1)), some (vI k)]) dX5_countThere_27 rfl rfl ?_
        refine wp_iinc (L' := [some (vR p), some (vI e), some (vI (n + 1)), some (vI (k + 1))]) dX5_countThere_30 rfl rfl ?_
        refine wp_goto 4 dX5_countThere_33 rfl ?_
        exact ih _ _ (by omega) (by omega) (by have e : wCtL g e (m + 1) k n = _ := if_pos c24; rw [e] at hQ; exact hQ)
def wCt (g : Int → Int) (e : Int) : Int := wCtL g e 60 0 0
set_option maxHeartbeats 2000000 in
theorem C_wcountThere {e : Int} (hS : SA 5 p q h) (hI : IW B g) (hBB : B + 1000 ≤ 1000000000) (he : 0 ≤ e ∧ e < 12) (hQ : Q (some (vI (wCt g e))) (h.set q (oI 1060 g))) : Cl X kX5_countThere [vR p, vI e] (h.set q (oI 1060 g)) Q := by
  refine cl_of rfl (Nat.le_of_ble_eq_true rfl) rfl ?_
  have hR := hI.r (by omega)
  refine wp_iconst dX5_countThere_0 ?_
  refine wp_istore_n (L' := [some (vR p), some (vI e), some (vI 0), none]) dX5_countThere_1 (by decide) rfl ?_
  refine wp_iconst dX5_countThere_2 ?_
  refine wp_istore_n (L' := [some (vR p), some (vI e), some (vI 0), some (vI 0)]) dX5_countThere_3 (by decide) rfl ?_
  exact lp_wCtL hS hR he 60 0 0 (by omega) (by omega) hQ
def wLuL (g : Int → Int) (k n : Int) : Nat → Int → Int
  | 0, _ => 0
  | m + 1, z => if z ≤ 0 then z else if g (jA z + 0) = k then z else wLuL g k n m (z + (-1))
set_option maxHeartbeats 2000000 in
theorem lp_wLuL {b : Nat × Nat} {k n : Int} (hS : SA 5 p q h) (hR : ∀ j, r32 (g j)) (hk : 0 ≤ k ∧ k < 10) (hn : 0 ≤ n ∧ n ≤ 60) : ∀ (m : Nat) (z : Int), z ≤ m → 0 ≤ z → (z ≤ 60) → Q (some (vI (wLuL g k n m z))) (h.set q (oI 1060 g)) → Wp X kX5_lastWriteUpTo 2 [some (vR p), some (vI k), some (vI n), some (vI z)] [] (h.set q (oI 1060 g)) b Q := by
  intro m
  induction m with
  | zero =>
    intro z h1 h3 h4 hQ
    obtain rfl : z = 0 := by omega
    refine wp_iload_n dX5_lastWriteUpTo_2 rfl ?_
    refine wp_if_le 27 dX5_lastWriteUpTo_3 rfl (by first | assumption | exact hR _ | exact hR2 _ | exact bI_r _ | (unfold r32; omega)) (fun c3 => ?_) (fun c3 => ?_)
    · refine wp_iload_n dX5_lastWriteUpTo_27 rfl ?_
      exact wp_iret dX5_lastWriteUpTo_28 rfl (by have e : wLuL g k n 0 0 = _ := rfl; rw [e] at hQ; exact hQ)
    · omega
  | succ m ih =>
    intro z h1 h3 h4 hQ
    have hb1 : ¬ z ≤ 0 → 112 ≤ jA z ∧ jA z + 3 ≤ 292 := fun q => jA_b (by omega)
    refine wp_iload_n dX5_lastWriteUpTo_2 rfl ?_
    refine wp_if_le 27 dX5_lastWriteUpTo_3 rfl (by first | assumption | exact hR _ | exact hR2 _ | exact bI_r _ | (unfold r32; omega)) (fun c3 => ?_) (fun c3 => ?_)
    · refine wp_iload_n dX5_lastWriteUpTo_27 rfl ?_
      exact wp_iret dX5_lastWriteUpTo_28 rfl (by have e : wLuL g k n (m + 1) z = _ := if_pos c3; rw [e] at hQ; exact hQ)
    · refine wp_aload_n dX5_lastWriteUpTo_6 rfl ?_
      refine sa_get hS dX5_lastWriteUpTo_7 fX5_11 ?_
      refine wp_iload_n dX5_lastWriteUpTo_10 rfl ?_
      refine wp_is1 dX5_lastWriteUpTo_11 SX5_writeAt lX5_42 (rq0 rfl rfl) (Nat.le_of_ble_eq_true rfl) (C_wwriteAt ?_)
      dsimp only [pushR]
      refine wp_iconst dX5_lastWriteUpTo_14 ?_
      refine wp_iadd dX5_lastWriteUpTo_15 ?_
      refine sa_ld (v := g (jA z + 0)) hS dX5_lastWriteUpTo_16 (by decide) (by omega) rfl ?_
      refine wp_iload_n dX5_lastWriteUpTo_17 rfl ?_
      refine wp_icmp_eq 27 dX5_lastWriteUpTo_18 rfl (by first | assumption | exact hR _ | exact hR2 _ | exact bI_r _ | (unfold r32; omega)) (by first | assumption | exact hR _ | exact hR2 _ | exact bI_r _ | (unfold r32; omega)) (fun c18 => ?_) (fun c18 => ?_)
      · refine wp_iload_n dX5_lastWriteUpTo_27 rfl ?_
        exact wp_iret dX5_lastWriteUpTo_28 rfl (by have e : wLuL g k n (m + 1) z = _ := (if_neg c3).trans (if_pos c18); rw [e] at hQ; exact hQ)
      · refine wp_iinc (L' := [some (vR p), some (vI k), some (vI n), some (vI (z + (-1)))]) dX5_lastWriteUpTo_21 rfl rfl ?_
        refine wp_goto 2 dX5_lastWriteUpTo_24 rfl ?_
        exact ih _ (by omega) (by omega) (by omega) (by have e : wLuL g k n (m + 1) z = _ := (if_neg c3).trans (if_neg c18); rw [e] at hQ; exact hQ)
def wLu (g : Int → Int) (k n : Int) : Int := wLuL g k n 60 n
set_option maxHeartbeats 2000000 in
theorem C_wlastWriteUpTo {k n : Int} (hS : SA 5 p q h) (hI : IW B g) (hBB : B + 1000 ≤ 1000000000) (hk : 0 ≤ k ∧ k < 10) (hn : 0 ≤ n ∧ n ≤ 60) (hQ : Q (some (vI (wLu g k n))) (h.set q (oI 1060 g))) : Cl X kX5_lastWriteUpTo [vR p, vI k, vI n] (h.set q (oI 1060 g)) Q := by
  refine cl_of rfl (Nat.le_of_ble_eq_true rfl) rfl ?_
  have hR := hI.r (by omega)
  refine wp_iload_n dX5_lastWriteUpTo_0 rfl ?_
  refine wp_istore_n (L' := [some (vR p), some (vI k), some (vI n), some (vI n)]) dX5_lastWriteUpTo_1 (by decide) rfl ?_
  exact lp_wLuL hS hR hk hn 60 n (by omega) (by omega) (by omega) hQ
theorem wWb_01 (g : Int → Int) (n c k : Int) : wWb g n c k = 0 ∨ wWb g n c k = 1 := by
  unfold wWb; (repeat' split) <;> first | exact Or.inl rfl | exact Or.inr rfl
def wLbL (g : Int → Int) (c k : Int) : Nat → Int → Int
  | 0, _ => 0
  | m + 1, z => if z ≤ 0 then z else if wWb g z c k = 0 then wLbL g c k m (z + (-1)) else z
set_option maxHeartbeats 2000000 in
theorem lp_wLbL {b : Nat × Nat} {c k : Int} (hS : SA 5 p q h) (hR : ∀ j, r32 (g j)) (hI : IW B g) (hBB : B + 1000 ≤ 1000000000) (hc : 0 ≤ c ∧ c < 6) (hk : 0 ≤ k ∧ k < 10) : ∀ (m : Nat) (z : Int), z ≤ m → 0 ≤ z → (z ≤ 60) → Q (some (vI (wLbL g c k m z))) (h.set q (oI 1060 g)) → Wp X kX5_lastWriteBy 5 [some (vR p), some (vI c), some (vI k), some (vI z)] [] (h.set q (oI 1060 g)) b Q := by
  intro m
  induction m with
  | zero =>
    intro z h1 h3 h4 hQ
    obtain rfl : z = 0 := by omega
    refine wp_iload_n dX5_lastWriteBy_5 rfl ?_
    refine wp_if_le 25 dX5_lastWriteBy_6 rfl (by first | assumption | exact hR _ | exact hR2 _ | exact bI_r _ | (unfold r32; omega)) (fun c6 => ?_) (fun c6 => ?_)
    · refine wp_iload_n dX5_lastWriteBy_25 rfl ?_
      exact wp_iret dX5_lastWriteBy_26 rfl (by have e : wLbL g c k 0 0 = _ := rfl; rw [e] at hQ; exact hQ)
    · omega
  | succ m ih =>
    intro z h1 h3 h4 hQ
    refine wp_iload_n dX5_lastWriteBy_5 rfl ?_
    refine wp_if_le 25 dX5_lastWriteBy_6 rfl (by first | assumption | exact hR _ | exact hR2 _ | exact bI_r _ | (unfold r32; omega)) (fun c6 => ?_) (fun c6 => ?_)
    · refine wp_iload_n dX5_lastWriteBy_25 rfl ?_
      exact wp_iret dX5_lastWriteBy_26 rfl (by have e : wLbL g c k (m + 1) z = _ := if_pos c6; rw [e] at hQ; exact hQ)
    · refine wp_aload_n dX5_lastWriteBy_9 rfl ?_
      refine wp_iload_n dX5_lastWriteBy_10 rfl ?_
      refine wp_iload_n dX5_lastWriteBy_11 rfl ?_
      refine wp_iload_n dX5_lastWriteBy_12 rfl ?_
      refine sa_i3 hS dX5_lastWriteBy_13 VX5_isWriteBy lX5_49 (rq0 rfl rfl) (Nat.le_of_ble_eq_true rfl) (C_wisWriteBy hS hI (by omega) (by omega) (by omega) (by omega) ?_)
      dsimp only [pushR]
      refine wp_if_ne 25 dX5_lastWriteBy_16 rfl (r01 (wWb_01 _ _ _ _)) (fun c16 => ?_) (fun c16 => ?_)
      · refine wp_iload_n dX5_lastWriteBy_25 rfl ?_
        exact wp_iret dX5_lastWriteBy_26 rfl (by have e : wLbL g c k (m + 1) z = _ := (if_neg c6).trans (if_neg c16); rw [e] at hQ; exact hQ)
      · refine wp_iinc (L' := [some (vR p), some (vI c), some (vI k), some (vI (z + (-1)))]) dX5_lastWriteBy_19 rfl rfl ?_
        refine wp_goto 5 dX5_lastWriteBy_22 rfl ?_
        exact ih _ (by omega) (by omega) (by omega) (by have e : wLbL g c k (m + 1) z = _ := (if_neg c6).trans (if_pos c16); rw [e] at hQ; exact hQ)
def wLb (g : Int → Int) (c k : Int) : Int := wLbL g c k 60 (g 1)
set_option maxHeartbeats 2000000 in
theorem C_wlastWriteBy {c k : Int} (hS : SA 5 p q h) (hI : IW B g) (hBB : B + 1000 ≤ 1000000000) (hc : 0 ≤ c ∧ c < 6) (hk : 0 ≤ k ∧ k < 10) (hQ : Q (some (vI (wLb g c k))) (h.set q (oI 1060 g))) : Cl X kX5_lastWriteBy [vR p, vI c, vI k] (h.set q (oI 1060 g)) Q := by
  refine cl_of rfl (Nat.le_of_ble_eq_true rfl) rfl ?_
  have hR := hI.r (by omega)
  have hw := hI.v60 (j := 1) (by omega)
  refine wp_aload_n dX5_lastWriteBy_0 rfl ?_
  refine sa_i0 hS dX5_lastWriteBy_1 VX5_writes lX5_45 (rq0 rfl rfl) (Nat.le_of_ble_eq_true rfl) (C_wwrites (v := g 1) hS rfl ?_)
  dsimp only [pushR]
  refine wp_istore_n (L' := [some (vR p), some (vI c), some (vI k), some (vI (g 1))]) dX5_lastWriteBy_4 (by decide) rfl ?_
  exact lp_wLbL hS hR hI hBB hc hk 60 (g 1) (by omega) (by omega) (by omega) hQ
def wBhL (g : Int → Int) (k n : Int) : Nat → Int → Int → Int
  | 0, _, y => y
  | m + 1, z, y => if g 1 < z then y else if g (jA z + 0) = k then wBhL g k n m (z + 1) (y + 1) else wBhL g k n m (z + 1) y
set_option maxHeartbeats 2000000 in
theorem lp_wBhL {b : Nat × Nat} {k n : Int} (hS : SA 5 p q h) (hR : ∀ j, r32 (g j)) (hI : IW B g) (hBB : B + 1000 ≤ 1000000000) (hk : 0 ≤ k ∧ k < 10) (hn : 0 ≤ n ∧ n ≤ 60) : ∀ (m : Nat) (z y : Int), g 1 + 1 ≤ z + m → 0 ≤ z → (1 ≤ z) → (z ≤ 62) → Q (some (vI (wBhL g k n m z y))) (h.set q (oI 1060 g)) → Wp X kX5_writesBehind 7 [some (vR p), some (vI k), some (vI n), some (vI y), some (vI z)] [] (h.set q (oI 1060 g)) b Q := by
  intro m
  induction m with
  | zero =>
    intro z y h1 h3 h4 h5 hQ
    have hw := hI.v60 (j := 1) (by omega)
    refine wp_iload dX5_writesBehind_7 rfl ?_
    refine wp_aload_n dX5_writesBehind_9 rfl ?_
    refine sa_i0 hS dX5_writesBehind_10 VX5_writes lX5_45 (rq0 rfl rfl) (Nat.le_of_ble_eq_true rfl) (C_wwrites (v := g 1) hS rfl ?_)
    dsimp only [pushR]
    refine wp_icmp_gt 41 dX5_writesBehind_13 rfl (by first | assumption | exact hR _ | exact hR2 _ | exact bI_r _ | (unfold r32; omega)) (by first | assumption | exact hR _ | exact hR2 _ | exact bI_r _ | (unfold r32; omega)) (fun c13 => ?_) (fun c13 => ?_)
    · refine wp_iload_n dX5_writesBehind_41 rfl ?_
      exact wp_iret dX5_writesBehind_42 rfl (by have e : wBhL g k n 0 z y = _ := rfl; rw [e] at hQ; exact hQ)
    · omega
  | succ m ih =>
    intro z y h1 h3 h4 h5 hQ
    have hw := hI.v60 (j := 1) (by omega)
    have hb1 : ¬ g 1 < z → 112 ≤ jA z ∧ jA z + 3 ≤ 292 := fun q => jA_b (by omega)
    refine wp_iload dX5_writesBehind_7 rfl ?_
    refine wp_aload_n dX5_writesBehind_9 rfl ?_
    refine sa_i0 hS dX5_writesBehind_10 VX5_writes lX5_45 (rq0 rfl rfl) (Nat.le_of_ble_eq_true rfl) (C_wwrites (v := g 1) hS rfl ?_)
    dsimp only [pushR]
    refine wp_icmp_gt 41 dX5_writesBehind_13 rfl (by first | assumption | exact hR _ | exact hR2 _ | exact bI_r _ | (unfold r32; omega)) (by first | assumption | exact hR _ | exact hR2 _ | exact bI_r _ | (unfold r32; omega)) (fun c13 => ?_) (fun c13 => ?_)
    · refine wp_iload_n dX5_writesBehind_41 rfl ?_
      exact wp_iret dX5_writesBehind_42 rfl (by have e : wBhL g k n (m + 1) z y = _ := if_pos c13; rw [e] at hQ; exact hQ)
    · refine wp_aload_n dX5_writesBehind_16 rfl ?_
      refine sa_get hS dX5_writesBehind_17 fX5_11 ?_
      refine wp_iload dX5_writesBehind_20 rfl ?_
      refine wp_is1 dX5_writesBehind_22 SX5_writeAt lX5_42 (rq0 rfl rfl) (Nat.le_of_ble_eq_true rfl) (C_wwriteAt ?_)
      dsimp only [pushR]
      refine wp_iconst dX5_writesBehind_25 ?_
      refine wp_iadd dX5_writesBehind_26 ?_
      refine sa_ld (v := g (jA z + 0)) hS dX5_writesBehind_27 (by decide) (by omega) rfl ?_
      refine wp_iload_n dX5_writesBehind_28 rfl ?_
      refine wp_icmp_ne 35 dX5_writesBehind_29 rfl (by first | assumption | exact hR _ | exact hR2 _ | exact bI_r _ | (unfold r32; omega)) (by first | assumption | exact hR _ | exact hR2 _ | exact bI_r _ | (unfold r32; omega)) (fun c29 => ?_) (fun c29 => ?_)
      · refine wp_iinc (L' := [some (vR p), some (vI k), some (vI n), some (vI y), some (vI (z + 1))]) dX5_writesBehind_35 rfl rfl ?_
        refine wp_goto 7 dX5_writesBehind_38 rfl ?_
        exact ih _ _ (by omega) (by omega) (by omega) (by omega) (by have e : wBhL g k n (m + 1) z y = _ := (if_neg c13).trans (if_neg c29); rw [e] at hQ; exact hQ)
      · refine wp_iinc (L' := [some (vR p), some (vI k), some (vI n), some (vI (y + 1)), some (vI z)]) dX5_writesBehind_32 rfl rfl ?_
        refine wp_iinc (L' := [some (vR p), some (vI k), some (vI n), some (vI (y + 1)), some (vI (z + 1))]) dX5_writesBehind_35 rfl rfl ?_
        refine wp_goto 7 dX5_writesBehind_38 rfl ?_
        exact ih _ _ (by omega) (by omega) (by omega) (by omega) (by have e : wBhL g k n (m + 1) z y = _ := (if_neg c13).trans (if_pos c29); rw [e] at hQ; exact hQ)
def wBh (g : Int → Int) (k n : Int) : Int := wBhL g k n 60 (n + 1) 0
set_option maxHeartbeats 2000000 in
theorem C_wwritesBehind {k n : Int} (hS : SA 5 p q h) (hI : IW B g) (hBB : B + 1000 ≤ 1000000000) (hk : 0 ≤ k ∧ k < 10) (hn : 0 ≤ n ∧ n ≤ 60) (hQ : Q (some (vI (wBh g k n))) (h.set q (oI 1060 g))) : Cl X kX5_writesBehind [vR p, vI k, vI n] (h.set q (oI 1060 g)) Q := by
  refine cl_of rfl (Nat.le_of_ble_eq_true rfl) rfl ?_
  have hR := hI.r (by omega)
  have hw := hI.v60 (j := 1) (by omega)
  refine wp_iconst dX5_writesBehind_0 ?_
  refine wp_istore_n (L' := [some (vR p), some (vI k), some (vI n), some (vI 0), none]) dX5_writesBehind_1 (by decide) rfl ?_
  refine wp_iload_n dX5_writesBehind_2 rfl ?_
  refine wp_iconst dX5_writesBehind_3 ?_
  refine wp_iadd dX5_writesBehind_4 ?_
  refine wp_istore (L' := [some (vR p), some (vI k), some (vI n), some (vI 0), some (vI (n + 1))]) dX5_writesBehind_5 (by decide) rfl ?_
  exact lp_wBhL hS hR hI hBB hk hn 60 (n + 1) 0 (by omega) (by omega) (by omega) (by omega) hQ
theorem xv3 {i : Int} (h : 0 ≤ i ∧ i < 4) : xv 3 i = (if i = 0 then 3 else if i = 1 then 4 else if i = 2 then 2 else 1) := by
  rcases (by omega : i = 0 ∨ i = 1 ∨ i = 2 ∨ i = 3) with rfl | rfl | rfl | rfl <;> rfl
theorem xv3_b {i : Int} (h : 0 ≤ i ∧ i < 4) : 1 ≤ xv 3 i ∧ xv 3 i ≤ 4 := by
  rw [xv3 h]; split <;> (try split) <;> (try split) <;> omega
theorem xv4 {i : Int} (h : 0 ≤ i ∧ i < 4) : xv 4 i = (if i = 0 then 5 else if i = 1 then 7 else if i = 2 then 10 else 11) := by
  rcases (by omega : i = 0 ∨ i = 1 ∨ i = 2 ∨ i = 3) with rfl | rfl | rfl | rfl <;> rfl
theorem xv4_b {i : Int} (h : 0 ≤ i ∧ i < 4) : 5 ≤ xv 4 i ∧ xv 4 i ≤ 11 := by
  rw [xv4 h]; split <;> (try split) <;> (try split) <;> omega
def wLkL (g : Int → Int) (a y t : Int) : Nat → Int → Int → Int → Int
  | 0, _, z, _ => z
  | m + 1, k, z, u => if g 0 < g (sA a k + 5) then if z = (-2) then wLkL g a y t m (k + 1) k (g (sA a k + y)) else if u ≤ g (sA a k + y) then wLkL g a y t m (k + 1) z u else wLkL g a y t m (k + 1) k (g (sA a k + y)) else wLkL g a y t m (k + 1) z u
set_option maxHeartbeats 2000000 in
theorem lp_wLkL {b : Nat × Nat} {a y t : Int} (hS : SA 5 p q h) (hR : ∀ j, r32 (g j)) (ha : 0 ≤ a ∧ a < 6) (hy : 1 ≤ y ∧ y ≤ 4) : ∀ (m : Nat) (k z u : Int), k + m = 10 → 0 ≤ k → (r32 z) → (r32 u) → Q (some (vI (wLkL g a y t m k z u))) (h.set q (oI 1060 g)) → Wp X kX5_leastKey 16 [some (vR p), some (vI a), some (vI t), some (vI y), some (vI z), some (vI u), some (vI k), none] [] (h.set q (oI 1060 g)) b Q := by
  intro m
  induction m with
  | zero =>
    intro k z u h1 h3 h4 h5 hQ
    obtain rfl : k = 10 := by omega
    refine wp_iload dX5_leastKey_16 rfl ?_
    refine wp_bipush dX5_leastKey_18 rfl ?_
    refine wp_icmp_ge 84 dX5_leastKey_20 rfl (by first | assumption | exact hR _ | exact hR2 _ | exact bI_r _ | (unfold r32; omega)) ⟨by omega, by omega⟩ (fun c20 => ?_) (fun c20 => ?_)
    · refine wp_iload dX5_leastKey_84 rfl ?_
      exact wp_iret dX5_leastKey_86 rfl (by have e : wLkL g a y t 0 10 z u = _ := rfl; rw [e] at hQ; exact hQ)
    · omega
  | succ m ih =>
    intro k z u h1 h3 h4 h5 hQ
    have hb1 := sA_b (k := k) ha ⟨h3, by omega⟩
    refine wp_iload dX5_leastKey_16 rfl ?_
    refine wp_bipush dX5_leastKey_18 rfl ?_
    refine wp_icmp_ge 84 dX5_leastKey_20 rfl (by first | assumption | exact hR _ | exact hR2 _ | exact bI_r _ | (unfold r32; omega)) ⟨by omega, by omega⟩ (fun c20 => ?_) (fun c20 => ?_)
    · omega
    · refine wp_iload_n dX5_leastKey_23 rfl ?_
      refine wp_iload dX5_leastKey_24 rfl ?_
      refine wp_is2 dX5_leastKey_26 SX5_spotAt lX5_31 (rq0 rfl rfl) (Nat.le_of_ble_eq_true rfl) (C_wspotAt ?_)
      dsimp only [pushR]
      refine wp_istore (L' := [some (vR p), some (vI a), some (vI t), some (vI y), some (vI z), some (vI u), some (vI k), some (vI (sA a k))]) dX5_leastKey_29 (by decide) rfl ?_
      refine wp_aload_n dX5_leastKey_31 rfl ?_
      refine wp_iload dX5_leastKey_32 rfl ?_
      refine wp_iconst dX5_leastKey_34 ?_
      refine wp_iadd dX5_leastKey_35 ?_
      refine sa_i1 hS dX5_leastKey_36 VX5_isAhead lX5_35 (rq0 rfl rfl) (Nat.le_of_ble_eq_true rfl) (C_wisAhead (v0 := g 0) (v1 := g (sA a k + 5)) hS (by omega) rfl rfl (by first | assumption | exact hR _ | exact hR2 _ | exact bI_r _ | (unfold r32; omega)) (by first | assumption | exact hR _ | exact hR2 _ | exact bI_r _ | (unfold r32; omega)) ?_)
      dsimp only [pushR]
      refine wp_beq 78 dX5_leastKey_39 rfl (fun c39 => ?_) (fun c39 => ?_)
      · refine wp_iinc (L' := [some (vR p), some (vI a), some (vI t), some (vI y), some (vI z), some (vI u), some (vI (k + 1)), some (vI (sA a k))]) dX5_leastKey_78 rfl rfl ?_
        refine wp_goto 16 dX5_leastKey_81 rfl ?_
        refine wp_drop (L' := [some (vR p), some (vI a), some (vI t), some (vI y), some (vI z), some (vI u), some (vI (k + 1)), none]) 7 rfl ?_
        exact ih _ _ _ (by omega) (by omega) (by first | assumption | (unfold r32; omega)) (by first | assumption | exact hR _) (by have e : wLkL g a y t (m + 1) k z u = _ := if_neg c39; rw [e] at hQ; exact hQ)
      · refine wp_iload dX5_leastKey_42 rfl ?_
        refine wp_bipush dX5_leastKey_44 rfl ?_
        refine wp_icmp_eq 63 dX5_leastKey_46 rfl (by first | assumption | exact hR _ | exact hR2 _ | exact bI_r _ | (unfold r32; omega)) ⟨by omega, by omega⟩ (fun c46 => ?_) (fun c46 => ?_)
        · refine wp_iload dX5_leastKey_63 rfl ?_
          refine wp_istore (L' := [some (vR p), some (vI a), some (vI t), some (vI y), some (vI k), some (vI u), some (vI k), some (vI (sA a k))]) dX5_leastKey_65 (by decide) rfl ?_
          refine wp_aload_n dX5_leastKey_67 rfl ?_
          refine sa_get hS dX5_leastKey_68 fX5_11 ?_
          refine wp_iload dX5_leastKey_71 rfl ?_
          refine wp_iload_n dX5_leastKey_73 rfl ?_
          refine wp_iadd dX5_leastKey_74 ?_
          refine sa_ld (v := g (sA a k + y)) hS dX5_leastKey_75 (by decide) (by omega) rfl ?_
          refine wp_istore (L' := [some (vR p), some (vI a), some (vI t), some (vI y), some (vI k), some (vI (g (sA a k + y))), some (vI k), some (vI (sA a k))]) dX5_leastKey_76 (by decide) rfl ?_
          refine wp_iinc (L' := [some (vR p), some (vI a), some (vI t), some (vI y), some (vI k), some (vI (g (sA a k + y))), some (vI (k + 1)), some (vI (sA a k))]) dX5_leastKey_78 rfl rfl ?_
          refine wp_goto 16 dX5_leastKey_81 rfl ?_
          refine wp_drop (L' := [some (vR p), some (vI a), some (vI t), some (vI y), some (vI k), some (vI (g (sA a k + y))), some (vI (k + 1)), none]) 7 rfl ?_
          exact ih _ _ _ (by omega) (by omega) (by first | assumption | (unfold r32; omega)) (by first | assumption | exact hR _) (by have e : wLkL g a y t (m + 1) k z u = _ := (if_pos c39).trans (if_pos c46); rw [e] at hQ; exact hQ)
        · refine wp_aload_n dX5_leastKey_49 rfl ?_
          refine sa_get hS dX5_leastKey_50 fX5_11 ?_
          refine wp_iload dX5_leastKey_53 rfl ?_
          refine wp_iload_n dX5_leastKey_55 rfl ?_
          refine wp_iadd dX5_leastKey_56 ?_
          refine sa_ld (v := g (sA a k + y)) hS dX5_leastKey_57 (by decide) (by omega) rfl ?_
          refine wp_iload dX5_leastKey_58 rfl ?_
          refine wp_icmp_ge 78 dX5_leastKey_60 rfl (by first | assumption | exact hR _ | exact hR2 _ | exact bI_r _ | (unfold r32; omega)) (by first | assumption | exact hR _ | exact hR2 _ | exact bI_r _ | (unfold r32; omega)) (fun c60 => ?_) (fun c60 => ?_)
          · refine wp_iinc (L' := [some (vR p), some (vI a), some (vI t), some (vI y), some (vI z), some (vI u), some (vI (k + 1)), some (vI (sA a k))]) dX5_leastKey_78 rfl rfl ?_
            refine wp_goto 16 dX5_leastKey_81 rfl ?_
            refine wp_drop (L' := [some (vR p), some (vI a), some (vI t), some (vI y), some (vI z), some (vI u), some (vI (k + 1)), none]) 7 rfl ?_
            exact ih _ _ _ (by omega) (by omega) (by first | assumption | (unfold r32; omega)) (by first | assumption | exact hR _) (by have e : wLkL g a y t (m + 1) k z u = _ := (if_pos c39).trans ((if_neg c46).trans (if_pos c60)); rw [e] at hQ; exact hQ)
          · refine wp_iload dX5_leastKey_63 rfl ?_
            refine wp_istore (L' := [some (vR p), some (vI a), some (vI t), some (vI y), some (vI k), some (vI u), some (vI k), some (vI (sA a k))]) dX5_leastKey_65 (by decide) rfl ?_
            refine wp_aload_n dX5_leastKey_67 rfl ?_
            refine sa_get hS dX5_leastKey_68 fX5_11 ?_
            refine wp_iload dX5_leastKey_71 rfl ?_
            refine wp_iload_n dX5_leastKey_73 rfl ?_
            refine wp_iadd dX5_leastKey_74 ?_
            refine sa_ld (v := g (sA a k + y)) hS dX5_leastKey_75 (by decide) (by omega) rfl ?_
            refine wp_istore (L' := [some (vR p), some (vI a), some (vI t), some (vI y), some (vI k), some (vI (g (sA a k + y))), some (vI k), some (vI (sA a k))]) dX5_leastKey_76 (by decide) rfl ?_
            refine wp_iinc (L' := [some (vR p), some (vI a), some (vI t), some (vI y), some (vI k), some (vI (g (sA a k + y))), some (vI (k + 1)), some (vI (sA a k))]) dX5_leastKey_78 rfl rfl ?_
            refine wp_goto 16 dX5_leastKey_81 rfl ?_
            refine wp_drop (L' := [some (vR p), some (vI a), some (vI t), some (vI y), some (vI k), some (vI (g (sA a k + y))), some (vI (k + 1)), none]) 7 rfl ?_
            exact ih _ _ _ (by omega) (by omega) (by first | assumption | (unfold r32; omega)) (by first | assumption | exact hR _) (by have e : wLkL g a y t (m + 1) k z u = _ := (if_pos c39).trans ((if_neg c46).trans (if_neg c60)); rw [e] at hQ; exact hQ)
def wLk (g : Int → Int) (a t : Int) : Int := wLkL g a (xv 3 t) t 10 0 (-2) 0
set_option maxHeartbeats 2000000 in
theorem C_wleastKey {a t : Int} (hS : SA 5 p q h) (hI : IW B g) (hBB : B + 1000 ≤ 1000000000) (ha : 0 ≤ a ∧ a < 6) (ht : 0 ≤ t ∧ t < 4) (hQ : Q (some (vI (wLk g a t))) (h.set q (oI 1060 g))) : Cl X kX5_leastKey [vR p, vI a, vI t] (h.set q (oI 1060 g)) Q := by
  refine cl_of rfl (Nat.le_of_ble_eq_true rfl) rfl ?_
  have hR := hI.r (by omega)
  refine wp_gets 3 dX5_leastKey_0 wsX5_53 (by decide) ?_
  refine wp_iload_n dX5_leastKey_3 rfl ?_
  refine wp_xld 3 dX5_leastKey_4 (by decide) (by show 0 ≤ t ∧ t < ((4 : Nat) : Int); omega) ?_
  refine wp_istore_n (L' := [some (vR p), some (vI a), some (vI t), some (vI (xv 3 t)), none, none, none, none]) dX5_leastKey_5 (by decide) rfl ?_
  refine wp_bipush dX5_leastKey_6 rfl ?_
  refine wp_istore (L' := [some (vR p), some (vI a), some (vI t), some (vI (xv 3 t)), some (vI (-2)), none, none, none]) dX5_leastKey_8 (by decide) rfl ?_
  refine wp_iconst dX5_leastKey_10 ?_
  refine wp_istore (L' := [some (vR p), some (vI a), some (vI t), some (vI (xv 3 t)), some (vI (-2)), some (vI 0), none, none]) dX5_leastKey_11 (by decide) rfl ?_
  refine wp_iconst dX5_leastKey_13 ?_
  refine wp_istore (L' := [some (vR p), some (vI a), some (vI t), some (vI (xv 3 t)), some (vI (-2)), some (vI 0), some (vI 0), none]) dX5_leastKey_14 (by decide) rfl ?_
  exact lp_wLkL hS hR ha (xv3_b ht) 10 0 (-2) 0 (by omega) (by omega) (by unfold r32; omega) (by unfold r32; omega) hQ
def wEkL (g : Int → Int) (a : Int) : Nat → Int → Int → Int
  | 0, _, n => n
  | m + 1, k, n => if g 0 < g (sA a k + 5) then wEkL g a m (k + 1) (n + pw k) else wEkL g a m (k + 1) n
set_option maxHeartbeats 2000000 in
theorem lp_wEkL {b : Nat × Nat} {a : Int} (hS : SA 5 p q h) (hR : ∀ j, r32 (g j)) (ha : 0 ≤ a ∧ a < 6) : ∀ (m : Nat) (k n : Int), k + m = 10 → 0 ≤ k → (0 ≤ n ∧ n < pw k) → Q (some (vI (wEkL g a m k n))) (h.set q (oI 1060 g)) → Wp X kX5_entryKeys 4 [some (vR p), some (vI a), some (vI n), some (vI k)] [] (h.set q (oI 1060 g)) b Q := by
  intro m
  induction m with
  | zero =>
    intro k n h1 h3 h4 hQ
    obtain rfl : k = 10 := by omega
    refine wp_iload_n dX5_entryKeys_4 rfl ?_
    refine wp_bipush dX5_entryKeys_5 rfl ?_
    refine wp_icmp_ge 36 dX5_entryKeys_7 rfl (by first | assumption | exact hR _ | exact hR2 _ | exact bI_r _ | (unfold r32; omega)) ⟨by omega, by omega⟩ (fun c7 => ?_) (fun c7 => ?_)
    · refine wp_iload_n dX5_entryKeys_36 rfl ?_
      exact wp_iret dX5_entryKeys_37 rfl (by have e : wEkL g a 0 10 n = _ := rfl; rw [e] at hQ; exact hQ)
    · omega
  | succ m ih =>
    intro k n h1 h3 h4 hQ
    have hb1 := sA_b (k := k) ha ⟨h3, by omega⟩
    refine wp_iload_n dX5_entryKeys_4 rfl ?_
    refine wp_bipush dX5_entryKeys_5 rfl ?_
    refine wp_icmp_ge 36 dX5_entryKeys_7 rfl (by first | assumption | exact hR _ | exact hR2 _ | exact bI_r _ | (unfold r32; omega)) ⟨by omega, by omega⟩ (fun c7 => ?_) (fun c7 => ?_)
    · omega
    · refine wp_aload_n dX5_entryKeys_10 rfl ?_
      refine wp_iload_n dX5_entryKeys_11 rfl ?_
      refine wp_iload_n dX5_entryKeys_12 rfl ?_
      refine wp_is2 dX5_entryKeys_13 SX5_spotAt lX5_31 (rq0 rfl rfl) (Nat.le_of_ble_eq_true rfl) (C_wspotAt ?_)
      dsimp only [pushR]
      refine wp_iconst dX5_entryKeys_16 ?_
      refine wp_iadd dX5_entryKeys_17 ?_
      refine sa_i1 hS dX5_entryKeys_18 VX5_isAhead lX5_35 (rq0 rfl rfl) (Nat.le_of_ble_eq_true rfl) (C_wisAhead (v0 := g 0) (v1 := g (sA a k + 5)) hS (by omega) rfl rfl (by first | assumption | exact hR _ | exact hR2 _ | exact bI_r _ | (unfold r32; omega)) (by first | assumption | exact hR _ | exact hR2 _ | exact bI_r _ | (unfold r32; omega)) ?_)
      dsimp only [pushR]
      refine wp_beq 30 dX5_entryKeys_21 rfl (fun c21 => ?_) (fun c21 => ?_)
      · refine wp_iinc (L' := [some (vR p), some (vI a), some (vI n), some (vI (k + 1))]) dX5_entryKeys_30 rfl rfl ?_
        refine wp_goto 4 dX5_entryKeys_33 rfl ?_
        exact ih _ _ (by omega) (by omega) (by rw [pw_s h3]; omega) (by have e : wEkL g a (m + 1) k n = _ := if_neg c21; rw [e] at hQ; exact hQ)
      · refine wp_iload_n dX5_entryKeys_24 rfl ?_
        refine wp_iconst dX5_entryKeys_25 ?_
        refine wp_iload_n dX5_entryKeys_26 rfl ?_
        refine wp_ishl (z := pw k) dX5_entryKeys_27 (sh_1 ⟨by omega, by omega⟩) ?_
        refine wp_ior (z := n + pw k) dX5_entryKeys_28 (or_1 ⟨by omega, by omega⟩ h4) ?_
        refine wp_istore_n (L' := [some (vR p), some (vI a), some (vI (n + pw k)), some (vI k)]) dX5_entryKeys_29 (by decide) rfl ?_
        refine wp_iinc (L' := [some (vR p), some (vI a), some (vI (n + pw k)), some (vI (k + 1))]) dX5_entryKeys_30 rfl rfl ?_
        refine wp_goto 4 dX5_entryKeys_33 rfl ?_
        exact ih _ _ (by omega) (by omega) (by rw [pw_s h3]; omega) (by have e : wEkL g a (m + 1) k n = _ := if_pos c21; rw [e] at hQ; exact hQ)
def wEk (g : Int → Int) (a : Int) : Int := wEkL g a 10 0 0
set_option maxHeartbeats 2000000 in
theorem C_wentryKeys {a : Int} (hS : SA 5 p q h) (hI : IW B g) (hBB : B + 1000 ≤ 1000000000) (ha : 0 ≤ a ∧ a < 6) (hQ : Q (some (vI (wEk g a))) (h.set q (oI 1060 g))) : Cl X kX5_entryKeys [vR p, vI a] (h.set q (oI 1060 g)) Q := by
  refine cl_of rfl (Nat.le_of_ble_eq_true rfl) rfl ?_
  have hR := hI.r (by omega)
  refine wp_iconst dX5_entryKeys_0 ?_
  refine wp_istore_n (L' := [some (vR p), some (vI a), some (vI 0), none]) dX5_entryKeys_1 (by decide) rfl ?_
  refine wp_iconst dX5_entryKeys_2 ?_
  refine wp_istore_n (L' := [some (vR p), some (vI a), some (vI 0), some (vI 0)]) dX5_entryKeys_3 (by decide) rfl ?_
  exact lp_wEkL hS hR ha 10 0 0 (by omega) (by omega) ⟨by omega, by decide⟩ hQ
end WA
