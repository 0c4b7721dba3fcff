/-! the class' face: acts -/
section CA
variable {X : XS} {h h' : AH} {Q : Option AV → AH → Prop} {f : Int → Int} {B : Int} {hr bh ah : Int} {sl : Int → Option Nat} {rw_ : Int → Int → Int} {kp sp : AV} {ko : Int → Int}
/-- the image that is kept -/
def KO (h : AH) (sl : Int → Option Nat) (kp : AV) (ko : Int → Int) : Prop := kp = vN ∨ ∃ q : Nat, kp = vR q ∧ 70 ≤ q ∧ h[q]? = some (oI 1060 ko) ∧ SmZ ko ∧ ∀ j, 0 ≤ j ∧ j < 31 → sl j ≠ some q
/-- the class' state: its row, history, image -/
def CA (h : AH) (f : Int → Int) (hr bh ah : Int) (sl : Int → Option Nat) (rw_ : Int → Int → Int) (kp sp : AV) (ko : Int → Int) : Prop := h[0]? = some (oO 6 (cF sp kp)) ∧ SA 5 1 2 h ∧ h[2]? = some (oI 1060 f) ∧ SmZ f ∧ HH h hr bh ah sl rw_ ∧ KO h sl kp ko ∧ 70 ≤ h.length
/-- what acts leave as it was: the places 3 to 69 but the history's -/
def FA (h h' : AH) : Prop := h.length ≤ h'.length ∧ ∀ i, 3 ≤ i → i < 70 → i ≠ 5 → i ≠ 6 → i ≠ 7 → h'[i]? = h[i]?
theorem FA.rf : FA h h := ⟨Nat.le_refl _, fun _ _ _ _ _ _ => rfl⟩
theorem FA.tr {h1 h2 : AH} (a : FA h h1) (b : FA h1 h2) : FA h h2 := ⟨Nat.le_trans a.1 b.1, fun i q1 q2 q3 q4 q5 => (b.2 i q1 q2 q3 q4 q5).trans (a.2 i q1 q2 q3 q4 q5)⟩
theorem HH.s2 {c : AC} (H : HH h hr bh ah sl rw_) : HH (h.set 2 c) hr bh ah sl rw_ := by
  obtain ⟨H1, H2, H3, H4, H5, H6⟩ := H
  exact ⟨gs_ne (by decide) H1, gs_ne (by decide) H2, H3, fun i hi s hs => ⟨(H4 i hi s hs).1, gs_ne (by have := (H4 i hi s hs).1; omega) (H4 i hi s hs).2.1, (H4 i hi s hs).2.2⟩, H5, H6⟩
theorem CA.s2 {f' : Int → Int} (C : CA h f hr bh ah sl rw_ kp sp ko) (hz : SmZ f') : CA (h.set 2 (oI 1060 f')) f' hr bh ah sl rw_ kp sp ko := by
  obtain ⟨c0, c1, c2, c3, c4, c5, c6⟩ := C
  obtain ⟨q0, q1, fs, q2, q3⟩ := c1
  refine ⟨gs_ne (by decide) c0, sa_mk (by decide) (gs_ne (by decide) q2) q3 (gs_eq q1), gs_eq q1, hz, c4.s2, ?_, by rw [List.length_set]; exact c6⟩
  rcases c5 with c5 | ⟨q, z1, z2, z3, z4, z5⟩
  · exact Or.inl c5
  · exact Or.inr ⟨q, z1, z2, gs_ne (by omega) z3, z4, z5⟩
theorem FA.s2 {c : AC} : FA h (h.set 2 c) := ⟨by rw [List.length_set]; exact Nat.le_refl _, fun i q1 q2 q3 q4 q5 => List.getElem?_set_ne (by omega)⟩
/-- how the history goes on behind an answer -/
def NT (v : Int) (f' : Int → Int) (hr bh ah : Int) (rw_ : Int → Int → Int) (hr' bh' ah' : Int) (rw' : Int → Int → Int) : Prop := (dOn v ∧ hr' = (hr + 1) % 31 ∧ bh' = (if bh + 1 ≤ 30 then bh + 1 else 30) ∧ ah' = 0 ∧ rw' = udR rw_ hr' f') ∨ (¬ dOn v ∧ hr' = hr ∧ bh' = bh ∧ ah' = ah ∧ rw' = rw_)
theorem CA.fh {hr' bh' ah' : Int} {sl' : Int → Option Nat} {rw' : Int → Int → Int} (C : CA h f hr bh ah sl rw_ kp sp ko) (H : HH h' hr' bh' ah' sl' rw') (k : FH h h' sl sl') : CA h' f hr' bh' ah' sl' rw' kp sp ko ∧ FA h h' := by
  obtain ⟨c0, c1, c2, c3, c4, c5, c6⟩ := C
  obtain ⟨k1, k2, k3, k4⟩ := k
  obtain ⟨q0, q1, fs, q2, q3⟩ := c1
  have e0 := k2 0 (by decide) (by decide) (by decide) (by decide) (gs_lt c0)
  have e1 := k2 1 (by decide) (by decide) (by decide) (by decide) (gs_lt q2)
  have e2 := k2 2 (by decide) (by decide) (by decide) (by decide) (gs_lt c2)
  refine ⟨⟨e0.trans c0, sa_mk (by decide) (e1.trans q2) q3 (e2.trans c2), e2.trans c2, c3, H, ?_, by omega⟩, k1, fun i a1 a2 a3 a4 a5 => k2 i a3 a4 a5 a2 (by omega)⟩
  rcases c5 with c5 | ⟨q, z1, z2, z3, z4, z5⟩
  · exact Or.inl c5
  · have hl := gs_lt z3
    refine Or.inr ⟨q, z1, z2, (k3 q hl z5 (by omega) (by omega)).trans z3, z4, fun j hj e => ?_⟩
    rcases k4 j q hj e with w | w
    · exact z5 j hj w
    · omega
theorem N_noted {v : Int} (C : CA h f hr bh ah sl rw_ kp sp ko) (hv : r32 v) (hQ : ∀ h' hr' bh' ah' sl' rw', CA h' f hr' bh' ah' sl' rw' kp sp ko → FA h h' → NT v f hr bh ah rw_ hr' bh' ah' rw' → Q (some (vI v)) h') : Cl X kX6_noted [vR 0, vI v] h Q := by
  have C' := C
  obtain ⟨c0, c1, c2, c3, c4, c5, c6⟩ := C'
  refine C_noted hv c0 c4 c1 c2 c3 c6 (fun d => hQ _ _ _ _ _ _ C FA.rf (Or.inr ⟨d, rfl, rfl, rfl, rfl⟩)) (fun d h' sl' k1 k2 => ?_)
  have q := C.fh k1 k2
  exact hQ _ _ _ _ _ _ q.1 q.2 (Or.inl ⟨d, rfl, rfl, rfl, rfl⟩)
theorem xv1 {i : Int} (h : 0 ≤ i ∧ i < 7) : xv 1 i = (if i = 0 ∨ i = 1 ∨ i = 3 then 1 else 0) := by
  rcases (by omega : i = 0 ∨ i = 1 ∨ i = 2 ∨ i = 3 ∨ i = 4 ∨ i = 5 ∨ i = 6) with rfl | rfl | rfl | rfl | rfl | rfl | rfl <;> rfl
theorem xv2 {i : Int} (h : 0 ≤ i ∧ i < 7) : xv 2 i = (if i = 0 then 8 else if i = 1 then 99 else if i = 5 then 3 else if i = 6 then 1 else 20) := by
  rcases (by omega : i = 0 ∨ i = 1 ∨ i = 2 ∨ i = 3 ∨ i = 4 ∨ i = 5 ∨ i = 6) with rfl | rfl | rfl | rfl | rfl | rfl | rfl <;> rfl
theorem xv12_r {i : Int} (h : 0 ≤ i ∧ i < 7) : r32 (xv 1 i) ∧ r32 (xv 2 i) := by
  rw [xv1 h, xv2 h]
  unfold r32
  constructor <;> ((repeat' split) <;> omega)
def cGet (g : Int → Int) (c k : Int) : Int × (Int → Int) := if 0 ≤ c ∧ c < 6 then if 0 ≤ k ∧ k < 10 then ((wGet g c k).1, (wGet g c k).2) else ((-1), g) else ((-1), g)
set_option maxHeartbeats 2000000 in
theorem F_cget {g : Int → Int} {c k : Int} (hC : CA h g hr bh ah sl rw_ kp sp ko) (hI : IW B g) (hBB : B ≤ 8000000) (rc : r32 c) (rk : r32 k)  (hz : SmZ (cGet g c k).2) (hv : r32 (cGet g c k).1) (hQ : ∀ h' hr' bh' ah' sl' rw', CA h' (cGet g c k).2 hr' bh' ah' sl' rw' kp sp ko → FA h h' → NT (cGet g c k).1 (cGet g c k).2 hr bh ah rw_ hr' bh' ah' rw' → Q (some (vI (cGet g c k).1)) h') : Cl X kX6_get [vR 0, vI c, vI k] h Q := by
  have hS := hC.2.1
  have h2 := hC.2.2.1
  have hR := hI.r (by omega)
  refine sa_of h2 ?_
  refine cl_of rfl (Nat.le_of_ble_eq_true rfl) rfl ?_
  refine wp_iload_n dX6_get_0 rfl ?_
  refine wp_bipush dX6_get_1 rfl ?_
  refine wp_is2 dX6_get_3 SX6_below lX6_81 (rq0 rfl rfl) (Nat.le_of_ble_eq_true rfl) (C_below (by first | assumption | exact hR _ | exact hR2 _ | exact bI_r _ | (unfold r32; omega)) (by first | assumption | exact hR _ | exact hR2 _ | exact bI_r _ | (unfold r32; omega)) ?_)
  dsimp only [pushR]
  refine wp_beq 18 dX6_get_6 rfl (fun c6 => ?_) (fun c6 => ?_)
  · refine wp_iconst dX6_get_18 ?_
    exact wp_iret dX6_get_19 rfl (by have e : cGet g c k = _ := if_neg c6; rw [e] at hz hv hQ; rw [set_same h2]; exact hQ _ _ _ _ _ _ hC FA.rf (Or.inr ⟨by unfold dOn; omega, rfl, rfl, rfl, rfl⟩))
  · refine wp_iload_n dX6_get_9 rfl ?_
    refine wp_bipush dX6_get_10 rfl ?_
    refine wp_is2 dX6_get_12 SX6_below lX6_81 (rq0 rfl rfl) (Nat.le_of_ble_eq_true rfl) (C_below (by first | assumption | exact hR _ | exact hR2 _ | exact bI_r _ | (unfold r32; omega)) (by first | assumption | exact hR _ | exact hR2 _ | exact bI_r _ | (unfold r32; omega)) ?_)
    dsimp only [pushR]
    refine wp_bne 20 dX6_get_15 rfl (fun c15 => ?_) (fun c15 => ?_)
    · refine wp_aload_n dX6_get_20 rfl ?_
      refine wp_aload_n dX6_get_21 rfl ?_
      refine wp_getf dX6_get_22 fX6_10 (gs_ne (by decide) hC.1) rfl ?_
      refine wp_iload_n dX6_get_25 rfl ?_
      refine wp_iload_n dX6_get_26 rfl ?_
      refine sa_i2 hS dX6_get_27 VX5_obtain lX6_85 (rq0 rfl rfl) (Nat.le_of_ble_eq_true rfl) (C_wobtain hS hI (by omega) (by omega) (by omega) ?_)
      dsimp only [pushR]
      have e : cGet g c k = _ := (if_pos c6).trans (if_pos c15)
      rw [e] at hz hv hQ
      refine wp_iv1 dX6_get_30 VX6_noted lX6_89 (gs_ne (by decide) hC.1) (rq1 (0, 0) rfl (by decide) (by decide)) (Nat.le_of_ble_eq_true rfl) (N_noted (CA.s2 hC hz) hv (fun h' hr' bh' ah' sl' rw' k1 k2 k3 => ?_))
      dsimp only [pushR]
      exact wp_iret dX6_get_33 rfl (hQ h' hr' bh' ah' sl' rw' k1 (FA.s2.tr k2) k3)
    · refine wp_iconst dX6_get_18 ?_
      exact wp_iret dX6_get_19 rfl (by have e : cGet g c k = _ := (if_pos c6).trans (if_neg c15); rw [e] at hz hv hQ; rw [set_same h2]; exact hQ _ _ _ _ _ _ hC FA.rf (Or.inr ⟨by unfold dOn; omega, rfl, rfl, rfl, rfl⟩))
def cLook (g : Int → Int) (c : Int) : Int × (Int → Int) := if 0 ≤ c ∧ c < 6 then ((wLook g c).1, (wLook g c).2) else ((-1), g)
set_option maxHeartbeats 2000000 in
theorem F_clook {g : Int → Int} {c : Int} (hC : CA h g hr bh ah sl rw_ kp sp ko) (hI : IW B g) (hBB : B ≤ 8000000) (rc : r32 c)  (hz : SmZ (cLook g c).2) (hv : r32 (cLook g c).1) (hQ : ∀ h' hr' bh' ah' sl' rw', CA h' (cLook g c).2 hr' bh' ah' sl' rw' kp sp ko → FA h h' → NT (cLook g c).1 (cLook g c).2 hr bh ah rw_ hr' bh' ah' rw' → Q (some (vI (cLook g c).1)) h') : Cl X kX6_look [vR 0, vI c] h Q := by
  have hS := hC.2.1
  have h2 := hC.2.2.1
  have hR := hI.r (by omega)
  refine sa_of h2 ?_
  refine cl_of rfl (Nat.le_of_ble_eq_true rfl) rfl ?_
  refine wp_iload_n dX6_look_0 rfl ?_
  refine wp_bipush dX6_look_1 rfl ?_
  refine wp_is2 dX6_look_3 SX6_below lX6_81 (rq0 rfl rfl) (Nat.le_of_ble_eq_true rfl) (C_below (by first | assumption | exact hR _ | exact hR2 _ | exact bI_r _ | (unfold r32; omega)) (by first | assumption | exact hR _ | exact hR2 _ | exact bI_r _ | (unfold r32; omega)) ?_)
  dsimp only [pushR]
  refine wp_bne 11 dX6_look_6 rfl (fun c6 => ?_) (fun c6 => ?_)
  · refine wp_aload_n dX6_look_11 rfl ?_
    refine wp_aload_n dX6_look_12 rfl ?_
    refine wp_getf dX6_look_13 fX6_10 (gs_ne (by decide) hC.1) rfl ?_
    refine wp_iload_n dX6_look_16 rfl ?_
    refine sa_i1 hS dX6_look_17 VX5_lookUp lX6_93 (rq0 rfl rfl) (Nat.le_of_ble_eq_true rfl) (C_wlookUp hS hI (by omega) (by omega) ?_)
    dsimp only [pushR]
    have e : cLook g c = _ := if_pos c6
    rw [e] at hz hv hQ
    refine wp_iv1 dX6_look_20 VX6_noted lX6_89 (gs_ne (by decide) hC.1) (rq1 (0, 0) rfl (by decide) (by decide)) (Nat.le_of_ble_eq_true rfl) (N_noted (CA.s2 hC hz) hv (fun h' hr' bh' ah' sl' rw' k1 k2 k3 => ?_))
    dsimp only [pushR]
    exact wp_iret dX6_look_23 rfl (hQ h' hr' bh' ah' sl' rw' k1 (FA.s2.tr k2) k3)
  · refine wp_iconst dX6_look_9 ?_
    exact wp_iret dX6_look_10 rfl (by have e : cLook g c = _ := if_neg c6; rw [e] at hz hv hQ; rw [set_same h2]; exact hQ _ _ _ _ _ _ hC FA.rf (Or.inr ⟨by unfold dOn; omega, rfl, rfl, rfl, rfl⟩))
def cFill (g : Int → Int) (c : Int) : Int × (Int → Int) := if 0 ≤ c ∧ c < 6 then ((wFill g c).1, (wFill g c).2) else ((-1), g)
set_option maxHeartbeats 2000000 in
theorem F_cfill {g : Int → Int} {c : Int} (hC : CA h g hr bh ah sl rw_ kp sp ko) (hI : IW B g) (hBB : B ≤ 8000000) (rc : r32 c) (h8 : g 8 ≤ 3) (hz : SmZ (cFill g c).2) (hv : r32 (cFill g c).1) (hQ : ∀ h' hr' bh' ah' sl' rw', CA h' (cFill g c).2 hr' bh' ah' sl' rw' kp sp ko → FA h h' → NT (cFill g c).1 (cFill g c).2 hr bh ah rw_ hr' bh' ah' rw' → Q (some (vI (cFill g c).1)) h') : Cl X kX6_fill [vR 0, vI c] h Q := by
  have hS := hC.2.1
  have h2 := hC.2.2.1
  have hR := hI.r (by omega)
  refine sa_of h2 ?_
  refine cl_of rfl (Nat.le_of_ble_eq_true rfl) rfl ?_
  refine wp_iload_n dX6_fill_0 rfl ?_
  refine wp_bipush dX6_fill_1 rfl ?_
  refine wp_is2 dX6_fill_3 SX6_below lX6_81 (rq0 rfl rfl) (Nat.le_of_ble_eq_true rfl) (C_below (by first | assumption | exact hR _ | exact hR2 _ | exact bI_r _ | (unfold r32; omega)) (by first | assumption | exact hR _ | exact hR2 _ | exact bI_r _ | (unfold r32; omega)) ?_)
  dsimp only [pushR]
  refine wp_bne 11 dX6_fill_6 rfl (fun c6 => ?_) (fun c6 => ?_)
  · refine wp_aload_n dX6_fill_11 rfl ?_
    refine wp_aload_n dX6_fill_12 rfl ?_
    refine wp_getf dX6_fill_13 fX6_10 (gs_ne (by decide) hC.1) rfl ?_
    refine wp_iload_n dX6_fill_16 rfl ?_
    refine sa_i1 hS dX6_fill_17 VX5_bringIn lX6_96 (rq0 rfl rfl) (Nat.le_of_ble_eq_true rfl) (C_wbringIn hS hI (by omega) (by omega) h8 ?_)
    dsimp only [pushR]
    have e : cFill g c = _ := if_pos c6
    rw [e] at hz hv hQ
    refine wp_iv1 dX6_fill_20 VX6_noted lX6_89 (gs_ne (by decide) hC.1) (rq1 (0, 0) rfl (by decide) (by decide)) (Nat.le_of_ble_eq_true rfl) (N_noted (CA.s2 hC hz) hv (fun h' hr' bh' ah' sl' rw' k1 k2 k3 => ?_))
    dsimp only [pushR]
    exact wp_iret dX6_fill_23 rfl (hQ h' hr' bh' ah' sl' rw' k1 (FA.s2.tr k2) k3)
  · refine wp_iconst dX6_fill_9 ?_
    exact wp_iret dX6_fill_10 rfl (by have e : cFill g c = _ := if_neg c6; rw [e] at hz hv hQ; rw [set_same h2]; exact hQ _ _ _ _ _ _ hC FA.rf (Or.inr ⟨by unfold dOn; omega, rfl, rfl, rfl, rfl⟩))
def cWrite (g : Int → Int) (c k v : Int) : Int × (Int → Int) := if 0 ≤ c ∧ c < 6 then if 0 ≤ k ∧ k < 10 then if 0 ≤ v ∧ v < 1000 then ((wWrite g c k v).1, (wWrite g c k v).2) else ((-1), g) else ((-1), g) else ((-1), g)
set_option maxHeartbeats 2000000 in
theorem F_cwrite {g : Int → Int} {c k v : Int} (hC : CA h g hr bh ah sl rw_ kp sp ko) (hI : IW B g) (hBB : B ≤ 8000000) (rc : r32 c) (rk : r32 k) (rv : r32 v) (h5 : g 5 ≤ 100) (h7 : g 7 ≤ 100) (hz : SmZ (cWrite g c k v).2) (hv : r32 (cWrite g c k v).1) (hQ : ∀ h' hr' bh' ah' sl' rw', CA h' (cWrite g c k v).2 hr' bh' ah' sl' rw' kp sp ko → FA h h' → NT (cWrite g c k v).1 (cWrite g c k v).2 hr bh ah rw_ hr' bh' ah' rw' → Q (some (vI (cWrite g c k v).1)) h') : Cl X kX6_write [vR 0, vI c, vI k, vI v] h Q := by
  have hS := hC.2.1
  have h2 := hC.2.2.1
  have hR := hI.r (by omega)
  refine sa_of h2 ?_
  refine cl_of rfl (Nat.le_of_ble_eq_true rfl) rfl ?_
  refine wp_iload_n dX6_write_0 rfl ?_
  refine wp_bipush dX6_write_1 rfl ?_
  refine wp_is2 dX6_write_3 SX6_below lX6_81 (rq0 rfl rfl) (Nat.le_of_ble_eq_true rfl) (C_below (by first | assumption | exact hR _ | exact hR2 _ | exact bI_r _ | (unfold r32; omega)) (by first | assumption | exact hR _ | exact hR2 _ | exact bI_r _ | (unfold r32; omega)) ?_)
  dsimp only [pushR]
  refine wp_beq 28 dX6_write_6 rfl (fun c6 => ?_) (fun c6 => ?_)
  · refine wp_iconst dX6_write_28 ?_
    exact wp_iret dX6_write_29 rfl (by have e : cWrite g c k v = _ := if_neg c6; rw [e] at hz hv hQ; rw [set_same h2]; exact hQ _ _ _ _ _ _ hC FA.rf (Or.inr ⟨by unfold dOn; omega, rfl, rfl, rfl, rfl⟩))
  · refine wp_iload_n dX6_write_9 rfl ?_
    refine wp_bipush dX6_write_10 rfl ?_
    refine wp_is2 dX6_write_12 SX6_below lX6_81 (rq0 rfl rfl) (Nat.le_of_ble_eq_true rfl) (C_below (by first | assumption | exact hR _ | exact hR2 _ | exact bI_r _ | (unfold r32; omega)) (by first | assumption | exact hR _ | exact hR2 _ | exact bI_r _ | (unfold r32; omega)) ?_)
    dsimp only [pushR]
    refine wp_beq 28 dX6_write_15 rfl (fun c15 => ?_) (fun c15 => ?_)
    · refine wp_iconst dX6_write_28 ?_
      exact wp_iret dX6_write_29 rfl (by have e : cWrite g c k v = _ := (if_pos c6).trans (if_neg c15); rw [e] at hz hv hQ; rw [set_same h2]; exact hQ _ _ _ _ _ _ hC FA.rf (Or.inr ⟨by unfold dOn; omega, rfl, rfl, rfl, rfl⟩))
    · refine wp_iload_n dX6_write_18 rfl ?_
      refine wp_sipush dX6_write_19 rfl ?_
      refine wp_is2 dX6_write_22 SX6_below lX6_81 (rq0 rfl rfl) (Nat.le_of_ble_eq_true rfl) (C_below (by first | assumption | exact hR _ | exact hR2 _ | exact bI_r _ | (unfold r32; omega)) (by first | assumption | exact hR _ | exact hR2 _ | exact bI_r _ | (unfold r32; omega)) ?_)
      dsimp only [pushR]
      refine wp_bne 30 dX6_write_25 rfl (fun c25 => ?_) (fun c25 => ?_)
      · refine wp_aload_n dX6_write_30 rfl ?_
        refine wp_aload_n dX6_write_31 rfl ?_
        refine wp_getf dX6_write_32 fX6_10 (gs_ne (by decide) hC.1) rfl ?_
        refine wp_iload_n dX6_write_35 rfl ?_
        refine wp_iload_n dX6_write_36 rfl ?_
        refine wp_iload_n dX6_write_37 rfl ?_
        refine sa_i3 hS dX6_write_38 VX5_writeDown lX6_99 (rq0 rfl rfl) (Nat.le_of_ble_eq_true rfl) (C_wwriteDown hS hI (by omega) (by omega) (by omega) (by omega) h5 h7 ?_)
        dsimp only [pushR]
        have e : cWrite g c k v = _ := (if_pos c6).trans ((if_pos c15).trans (if_pos c25))
        rw [e] at hz hv hQ
        refine wp_iv1 dX6_write_41 VX6_noted lX6_89 (gs_ne (by decide) hC.1) (rq1 (0, 0) rfl (by decide) (by decide)) (Nat.le_of_ble_eq_true rfl) (N_noted (CA.s2 hC hz) hv (fun h' hr' bh' ah' sl' rw' k1 k2 k3 => ?_))
        dsimp only [pushR]
        exact wp_iret dX6_write_44 rfl (hQ h' hr' bh' ah' sl' rw' k1 (FA.s2.tr k2) k3)
      · refine wp_iconst dX6_write_28 ?_
        exact wp_iret dX6_write_29 rfl (by have e : cWrite g c k v = _ := (if_pos c6).trans ((if_pos c15).trans (if_neg c25)); rw [e] at hz hv hQ; rw [set_same h2]; exact hQ _ _ _ _ _ _ hC FA.rf (Or.inr ⟨by unfold dOn; omega, rfl, rfl, rfl, rfl⟩))
def cApply (g : Int → Int) (r : Int) : Int × (Int → Int) := if 0 ≤ r ∧ r < 3 then ((wApply g r).1, (wApply g r).2) else ((-1), g)
set_option maxHeartbeats 2000000 in
theorem F_capply {g : Int → Int} {r : Int} (hC : CA h g hr bh ah sl rw_ kp sp ko) (hI : IW B g) (hBB : B ≤ 8000000) (rr : r32 r) (h5 : g 5 ≤ 100) (h7 : g 7 ≤ 100) (hz : SmZ (cApply g r).2) (hv : r32 (cApply g r).1) (hQ : ∀ h' hr' bh' ah' sl' rw', CA h' (cApply g r).2 hr' bh' ah' sl' rw' kp sp ko → FA h h' → NT (cApply g r).1 (cApply g r).2 hr bh ah rw_ hr' bh' ah' rw' → Q (some (vI (cApply g r).1)) h') : Cl X kX6_apply [vR 0, vI r] h Q := by
  have hS := hC.2.1
  have h2 := hC.2.2.1
  have hR := hI.r (by omega)
  refine sa_of h2 ?_
  refine cl_of rfl (Nat.le_of_ble_eq_true rfl) rfl ?_
  refine wp_iload_n dX6_apply_0 rfl ?_
  refine wp_iconst dX6_apply_1 ?_
  refine wp_is2 dX6_apply_2 SX6_below lX6_81 (rq0 rfl rfl) (Nat.le_of_ble_eq_true rfl) (C_below (by first | assumption | exact hR _ | exact hR2 _ | exact bI_r _ | (unfold r32; omega)) (by first | assumption | exact hR _ | exact hR2 _ | exact bI_r _ | (unfold r32; omega)) ?_)
  dsimp only [pushR]
  refine wp_bne 10 dX6_apply_5 rfl (fun c5 => ?_) (fun c5 => ?_)
  · refine wp_aload_n dX6_apply_10 rfl ?_
    refine wp_aload_n dX6_apply_11 rfl ?_
    refine wp_getf dX6_apply_12 fX6_10 (gs_ne (by decide) hC.1) rfl ?_
    refine wp_iload_n dX6_apply_15 rfl ?_
    refine sa_i1 hS dX6_apply_16 VX5_applyNext lX6_103 (rq0 rfl rfl) (Nat.le_of_ble_eq_true rfl) (C_wapplyNext hS hI (by omega) (by omega) h5 h7 ?_)
    dsimp only [pushR]
    have e : cApply g r = _ := if_pos c5
    rw [e] at hz hv hQ
    refine wp_iv1 dX6_apply_19 VX6_noted lX6_89 (gs_ne (by decide) hC.1) (rq1 (0, 0) rfl (by decide) (by decide)) (Nat.le_of_ble_eq_true rfl) (N_noted (CA.s2 hC hz) hv (fun h' hr' bh' ah' sl' rw' k1 k2 k3 => ?_))
    dsimp only [pushR]
    exact wp_iret dX6_apply_22 rfl (hQ h' hr' bh' ah' sl' rw' k1 (FA.s2.tr k2) k3)
  · refine wp_iconst dX6_apply_8 ?_
    exact wp_iret dX6_apply_9 rfl (by have e : cApply g r = _ := if_neg c5; rw [e] at hz hv hQ; rw [set_same h2]; exact hQ _ _ _ _ _ _ hC FA.rf (Or.inr ⟨by unfold dOn; omega, rfl, rfl, rfl, rfl⟩))
def cTick (g : Int → Int) (n : Int) : Int × (Int → Int) := if n < 1 then ((-1), g) else if n ≤ 50 then ((g 0) + n, (ud g 0 ((g 0) + n))) else ((-1), g)
set_option maxHeartbeats 2000000 in
theorem F_ctick {g : Int → Int} {n : Int} (hC : CA h g hr bh ah sl rw_ kp sp ko) (hI : IW B g) (hBB : B ≤ 8000000) (rn : r32 n)  (hz : SmZ (cTick g n).2) (hv : r32 (cTick g n).1) (hQ : ∀ h' hr' bh' ah' sl' rw', CA h' (cTick g n).2 hr' bh' ah' sl' rw' kp sp ko → FA h h' → NT (cTick g n).1 (cTick g n).2 hr bh ah rw_ hr' bh' ah' rw' → Q (some (vI (cTick g n).1)) h') : Cl X kX6_tick [vR 0, vI n] h Q := by
  have hS := hC.2.1
  have h2 := hC.2.2.1
  have hR := hI.r (by omega)
  refine sa_of h2 ?_
  refine cl_of rfl (Nat.le_of_ble_eq_true rfl) rfl ?_
  refine wp_iload_n dX6_tick_0 rfl ?_
  refine wp_iconst dX6_tick_1 ?_
  refine wp_icmp_lt 11 dX6_tick_2 rfl (by first | assumption | exact hR _ | exact hR2 _ | exact bI_r _ | (unfold r32; omega)) ⟨by omega, by omega⟩ (fun c2 => ?_) (fun c2 => ?_)
  · refine wp_iconst dX6_tick_11 ?_
    exact wp_iret dX6_tick_12 rfl (by have e : cTick g n = _ := if_pos c2; rw [e] at hz hv hQ; rw [set_same h2]; exact hQ _ _ _ _ _ _ hC FA.rf (Or.inr ⟨by unfold dOn; omega, rfl, rfl, rfl, rfl⟩))
  · refine wp_iload_n dX6_tick_5 rfl ?_
    refine wp_bipush dX6_tick_6 rfl ?_
    refine wp_icmp_le 13 dX6_tick_8 rfl (by first | assumption | exact hR _ | exact hR2 _ | exact bI_r _ | (unfold r32; omega)) ⟨by omega, by omega⟩ (fun c8 => ?_) (fun c8 => ?_)
    · refine wp_aload_n dX6_tick_13 rfl ?_
      refine wp_aload_n dX6_tick_14 rfl ?_
      refine wp_getf dX6_tick_15 fX6_10 (gs_ne (by decide) hC.1) rfl ?_
      refine wp_iload_n dX6_tick_18 rfl ?_
      refine sa_i1 hS dX6_tick_19 VX5_pass lX6_106 (rq0 rfl rfl) (Nat.le_of_ble_eq_true rfl) (C_wpass (v0 := g 0) hS rfl ?_)
      dsimp only [pushR]
      have e : cTick g n = _ := (if_neg c2).trans (if_pos c8)
      rw [e] at hz hv hQ
      refine wp_iv1 dX6_tick_22 VX6_noted lX6_89 (gs_ne (by decide) hC.1) (rq1 (0, 0) rfl (by decide) (by decide)) (Nat.le_of_ble_eq_true rfl) (N_noted (CA.s2 hC hz) hv (fun h' hr' bh' ah' sl' rw' k1 k2 k3 => ?_))
      dsimp only [pushR]
      exact wp_iret dX6_tick_25 rfl (hQ h' hr' bh' ah' sl' rw' k1 (FA.s2.tr k2) k3)
    · refine wp_iconst dX6_tick_11 ?_
      exact wp_iret dX6_tick_12 rfl (by have e : cTick g n = _ := (if_neg c2).trans (if_neg c8); rw [e] at hz hv hQ; rw [set_same h2]; exact hQ _ _ _ _ _ _ hC FA.rf (Or.inr ⟨by unfold dOn; omega, rfl, rfl, rfl, rfl⟩))
def cCold (g : Int → Int) (a v : Int) : Int × (Int → Int) := if 0 ≤ a ∧ a < 6 then if 0 ≤ v ∧ v < 2 then (g (36 + a), wTurn g a v) else ((-1), g) else ((-1), g)
set_option maxHeartbeats 2000000 in
theorem F_ccold {g : Int → Int} {a v : Int} (hC : CA h g hr bh ah sl rw_ kp sp ko) (hI : IW B g) (hBB : B ≤ 8000000) (ra : r32 a) (rv : r32 v)  (hz : SmZ (cCold g a v).2) (hv : r32 (cCold g a v).1) (hQ : ∀ h' hr' bh' ah' sl' rw', CA h' (cCold g a v).2 hr' bh' ah' sl' rw' kp sp ko → FA h h' → NT (cCold g a v).1 (cCold g a v).2 hr bh ah rw_ hr' bh' ah' rw' → Q (some (vI (cCold g a v).1)) h') : Cl X kX6_cold [vR 0, vI a, vI v] h Q := by
  have hS := hC.2.1
  have h2 := hC.2.2.1
  have hR := hI.r (by omega)
  refine sa_of h2 ?_
  refine cl_of rfl (Nat.le_of_ble_eq_true rfl) rfl ?_
  refine wp_iload_n dX6_cold_0 rfl ?_
  refine wp_bipush dX6_cold_1 rfl ?_
  refine wp_is2 dX6_cold_3 SX6_below lX6_81 (rq0 rfl rfl) (Nat.le_of_ble_eq_true rfl) (C_below (by first | assumption | exact hR _ | exact hR2 _ | exact bI_r _ | (unfold r32; omega)) (by first | assumption | exact hR _ | exact hR2 _ | exact bI_r _ | (unfold r32; omega)) ?_)
  dsimp only [pushR]
  refine wp_beq 17 dX6_cold_6 rfl (fun c6 => ?_) (fun c6 => ?_)
  · refine wp_iconst dX6_cold_17 ?_
    exact wp_iret dX6_cold_18 rfl (by have e : cCold g a v = _ := if_neg c6; rw [e] at hz hv hQ; rw [set_same h2]; exact hQ _ _ _ _ _ _ hC FA.rf (Or.inr ⟨by unfold dOn; omega, rfl, rfl, rfl, rfl⟩))
  · refine wp_iload_n dX6_cold_9 rfl ?_
    refine wp_iconst dX6_cold_10 ?_
    refine wp_is2 dX6_cold_11 SX6_below lX6_81 (rq0 rfl rfl) (Nat.le_of_ble_eq_true rfl) (C_below (by first | assumption | exact hR _ | exact hR2 _ | exact bI_r _ | (unfold r32; omega)) (by first | assumption | exact hR _ | exact hR2 _ | exact bI_r _ | (unfold r32; omega)) ?_)
    dsimp only [pushR]
    refine wp_bne 19 dX6_cold_14 rfl (fun c14 => ?_) (fun c14 => ?_)
    · refine wp_aload_n dX6_cold_19 rfl ?_
      refine wp_aload_n dX6_cold_20 rfl ?_
      refine wp_getf dX6_cold_21 fX6_10 (gs_ne (by decide) hC.1) rfl ?_
      refine wp_iload_n dX6_cold_24 rfl ?_
      refine wp_iload_n dX6_cold_25 rfl ?_
      refine sa_i2 hS dX6_cold_26 VX5_turn lX6_109 (rq0 rfl rfl) (Nat.le_of_ble_eq_true rfl) (C_wturn hS hI (by omega) (by omega) (by omega) ?_)
      dsimp only [pushR]
      have e : cCold g a v = _ := (if_pos c6).trans (if_pos c14)
      rw [e] at hz hv hQ
      refine wp_iv1 dX6_cold_29 VX6_noted lX6_89 (gs_ne (by decide) hC.1) (rq1 (0, 0) rfl (by decide) (by decide)) (Nat.le_of_ble_eq_true rfl) (N_noted (CA.s2 hC hz) hv (fun h' hr' bh' ah' sl' rw' k1 k2 k3 => ?_))
      dsimp only [pushR]
      exact wp_iret dX6_cold_32 rfl (hQ h' hr' bh' ah' sl' rw' k1 (FA.s2.tr k2) k3)
    · refine wp_iconst dX6_cold_17 ?_
      exact wp_iret dX6_cold_18 rfl (by have e : cCold g a v = _ := (if_pos c6).trans (if_neg c14); rw [e] at hz hv hQ; rw [set_same h2]; exact hQ _ _ _ _ _ _ hC FA.rf (Or.inr ⟨by unfold dOn; omega, rfl, rfl, rfl, rfl⟩))
def cGo (g : Int → Int) (c a : Int) : Int × (Int → Int) := if 0 ≤ c ∧ c < 6 then if 0 ≤ a ∧ a < 6 then ((g (cA c + 0)), (ud (ud (ud g (cA c + 0) a) (cA c + 7) 0) (cA c + 3) 0)) else ((-1), g) else ((-1), g)
set_option maxHeartbeats 2000000 in
theorem F_cgo {g : Int → Int} {c a : Int} (hC : CA h g hr bh ah sl rw_ kp sp ko) (hI : IW B g) (hBB : B ≤ 8000000) (rc : r32 c) (ra : r32 a)  (hz : SmZ (cGo g c a).2) (hv : r32 (cGo g c a).1) (hQ : ∀ h' hr' bh' ah' sl' rw', CA h' (cGo g c a).2 hr' bh' ah' sl' rw' kp sp ko → FA h h' → NT (cGo g c a).1 (cGo g c a).2 hr bh ah rw_ hr' bh' ah' rw' → Q (some (vI (cGo g c a).1)) h') : Cl X kX6_go [vR 0, vI c, vI a] h Q := by
  have hS := hC.2.1
  have h2 := hC.2.2.1
  have hR := hI.r (by omega)
  refine sa_of h2 ?_
  refine cl_of rfl (Nat.le_of_ble_eq_true rfl) rfl ?_
  refine wp_iload_n dX6_go_0 rfl ?_
  refine wp_bipush dX6_go_1 rfl ?_
  refine wp_is2 dX6_go_3 SX6_below lX6_81 (rq0 rfl rfl) (Nat.le_of_ble_eq_true rfl) (C_below (by first | assumption | exact hR _ | exact hR2 _ | exact bI_r _ | (unfold r32; omega)) (by first | assumption | exact hR _ | exact hR2 _ | exact bI_r _ | (unfold r32; omega)) ?_)
  dsimp only [pushR]
  refine wp_beq 18 dX6_go_6 rfl (fun c6 => ?_) (fun c6 => ?_)
  · refine wp_iconst dX6_go_18 ?_
    exact wp_iret dX6_go_19 rfl (by have e : cGo g c a = _ := if_neg c6; rw [e] at hz hv hQ; rw [set_same h2]; exact hQ _ _ _ _ _ _ hC FA.rf (Or.inr ⟨by unfold dOn; omega, rfl, rfl, rfl, rfl⟩))
  · refine wp_iload_n dX6_go_9 rfl ?_
    refine wp_bipush dX6_go_10 rfl ?_
    refine wp_is2 dX6_go_12 SX6_below lX6_81 (rq0 rfl rfl) (Nat.le_of_ble_eq_true rfl) (C_below (by first | assumption | exact hR _ | exact hR2 _ | exact bI_r _ | (unfold r32; omega)) (by first | assumption | exact hR _ | exact hR2 _ | exact bI_r _ | (unfold r32; omega)) ?_)
    dsimp only [pushR]
    refine wp_bne 20 dX6_go_15 rfl (fun c15 => ?_) (fun c15 => ?_)
    · refine wp_aload_n dX6_go_20 rfl ?_
      refine wp_aload_n dX6_go_21 rfl ?_
      refine wp_getf dX6_go_22 fX6_10 (gs_ne (by decide) hC.1) rfl ?_
      refine wp_iload_n dX6_go_25 rfl ?_
      refine wp_iload_n dX6_go_26 rfl ?_
      refine sa_i2 hS dX6_go_27 VX5_move lX6_112 (rq0 rfl rfl) (Nat.le_of_ble_eq_true rfl) (C_wmove (v0 := g (cA c + 0)) hS (by omega) rfl ?_)
      dsimp only [pushR]
      have e : cGo g c a = _ := (if_pos c6).trans (if_pos c15)
      rw [e] at hz hv hQ
      refine wp_iv1 dX6_go_30 VX6_noted lX6_89 (gs_ne (by decide) hC.1) (rq1 (0, 0) rfl (by decide) (by decide)) (Nat.le_of_ble_eq_true rfl) (N_noted (CA.s2 hC hz) hv (fun h' hr' bh' ah' sl' rw' k1 k2 k3 => ?_))
      dsimp only [pushR]
      exact wp_iret dX6_go_33 rfl (hQ h' hr' bh' ah' sl' rw' k1 (FA.s2.tr k2) k3)
    · refine wp_iconst dX6_go_18 ?_
      exact wp_iret dX6_go_19 rfl (by have e : cGo g c a = _ := (if_pos c6).trans (if_neg c15); rw [e] at hz hv hQ; rw [set_same h2]; exact hQ _ _ _ _ _ _ hC FA.rf (Or.inr ⟨by unfold dOn; omega, rfl, rfl, rfl, rfl⟩))
def cSet (g : Int → Int) (i v : Int) : Int × (Int → Int) := if 0 ≤ i ∧ i < 7 then if v < xv 1 i then ((-1), g) else if v ≤ xv 2 i then ((g (3 + i)), (ud g (3 + i) v)) else ((-1), g) else ((-1), g)
set_option maxHeartbeats 2000000 in
theorem F_cset {g : Int → Int} {i v : Int} (hC : CA h g hr bh ah sl rw_ kp sp ko) (hI : IW B g) (hBB : B ≤ 8000000) (ri : r32 i) (rv : r32 v)  (hz : SmZ (cSet g i v).2) (hv : r32 (cSet g i v).1) (hQ : ∀ h' hr' bh' ah' sl' rw', CA h' (cSet g i v).2 hr' bh' ah' sl' rw' kp sp ko → FA h h' → NT (cSet g i v).1 (cSet g i v).2 hr bh ah rw_ hr' bh' ah' rw' → Q (some (vI (cSet g i v).1)) h') : Cl X kX6_set [vR 0, vI i, vI v] h Q := by
  have hS := hC.2.1
  have h2 := hC.2.2.1
  have hR := hI.r (by omega)
  refine sa_of h2 ?_
  refine cl_of rfl (Nat.le_of_ble_eq_true rfl) rfl ?_
  refine wp_iload_n dX6_set_0 rfl ?_
  refine wp_bipush dX6_set_1 rfl ?_
  refine wp_is2 dX6_set_3 SX6_below lX6_81 (rq0 rfl rfl) (Nat.le_of_ble_eq_true rfl) (C_below (by first | assumption | exact hR _ | exact hR2 _ | exact bI_r _ | (unfold r32; omega)) (by first | assumption | exact hR _ | exact hR2 _ | exact bI_r _ | (unfold r32; omega)) ?_)
  dsimp only [pushR]
  refine wp_beq 27 dX6_set_6 rfl (fun c6 => ?_) (fun c6 => ?_)
  · refine wp_iconst dX6_set_27 ?_
    exact wp_iret dX6_set_28 rfl (by have e : cSet g i v = _ := if_neg c6; rw [e] at hz hv hQ; rw [set_same h2]; exact hQ _ _ _ _ _ _ hC FA.rf (Or.inr ⟨by unfold dOn; omega, rfl, rfl, rfl, rfl⟩))
  · refine wp_iload_n dX6_set_9 rfl ?_
    refine wp_gets 1 dX6_set_10 wsX6_115 (by decide) ?_
    refine wp_iload_n dX6_set_13 rfl ?_
    refine wp_xld 1 dX6_set_14 (by decide) (by show 0 ≤ i ∧ i < ((7 : Nat) : Int); omega) ?_
    refine wp_icmp_lt 27 dX6_set_15 rfl (by first | assumption | exact hR _ | exact (xv12_r (by omega)).1 | exact (xv12_r (by omega)).2 | (unfold r32; omega)) (by first | assumption | exact hR _ | exact (xv12_r (by omega)).1 | exact (xv12_r (by omega)).2 | (unfold r32; omega)) (fun c15 => ?_) (fun c15 => ?_)
    · refine wp_iconst dX6_set_27 ?_
      exact wp_iret dX6_set_28 rfl (by have e : cSet g i v = _ := (if_pos c6).trans (if_pos c15); rw [e] at hz hv hQ; rw [set_same h2]; exact hQ _ _ _ _ _ _ hC FA.rf (Or.inr ⟨by unfold dOn; omega, rfl, rfl, rfl, rfl⟩))
    · refine wp_iload_n dX6_set_18 rfl ?_
      refine wp_gets 2 dX6_set_19 wsX6_118 (by decide) ?_
      refine wp_iload_n dX6_set_22 rfl ?_
      refine wp_xld 2 dX6_set_23 (by decide) (by show 0 ≤ i ∧ i < ((7 : Nat) : Int); omega) ?_
      refine wp_icmp_le 29 dX6_set_24 rfl (by first | assumption | exact hR _ | exact (xv12_r (by omega)).1 | exact (xv12_r (by omega)).2 | (unfold r32; omega)) (by first | assumption | exact hR _ | exact (xv12_r (by omega)).1 | exact (xv12_r (by omega)).2 | (unfold r32; omega)) (fun c24 => ?_) (fun c24 => ?_)
      · refine wp_aload_n dX6_set_29 rfl ?_
        refine wp_aload_n dX6_set_30 rfl ?_
        refine wp_getf dX6_set_31 fX6_10 (gs_ne (by decide) hC.1) rfl ?_
        refine wp_iload_n dX6_set_34 rfl ?_
        refine wp_iload_n dX6_set_35 rfl ?_
        refine sa_i2 hS dX6_set_36 VX5_change lX6_121 (rq0 rfl rfl) (Nat.le_of_ble_eq_true rfl) (C_wchange (v0 := g (3 + i)) hS (by omega) rfl ?_)
        dsimp only [pushR]
        have e : cSet g i v = _ := (if_pos c6).trans ((if_neg c15).trans (if_pos c24))
        rw [e] at hz hv hQ
        refine wp_iv1 dX6_set_39 VX6_noted lX6_89 (gs_ne (by decide) hC.1) (rq1 (0, 0) rfl (by decide) (by decide)) (Nat.le_of_ble_eq_true rfl) (N_noted (CA.s2 hC hz) hv (fun h' hr' bh' ah' sl' rw' k1 k2 k3 => ?_))
        dsimp only [pushR]
        exact wp_iret dX6_set_42 rfl (hQ h' hr' bh' ah' sl' rw' k1 (FA.s2.tr k2) k3)
      · refine wp_iconst dX6_set_27 ?_
        exact wp_iret dX6_set_28 rfl (by have e : cSet g i v = _ := (if_pos c6).trans ((if_neg c15).trans (if_neg c24)); rw [e] at hz hv hQ; rw [set_same h2]; exact hQ _ _ _ _ _ _ hC FA.rf (Or.inr ⟨by unfold dOn; omega, rfl, rfl, rfl, rfl⟩))
def cNext (g : Int → Int)  : Int × (Int → Int) := ((wNext g).1, (wNext g).2)
set_option maxHeartbeats 2000000 in
theorem F_cnext {g : Int → Int} (hC : CA h g hr bh ah sl rw_ kp sp ko) (hI : IW B g) (hBB : B ≤ 8000000)   (hz : SmZ (cNext g).2) (hv : r32 (cNext g).1) (hQ : ∀ h' hr' bh' ah' sl' rw', CA h' (cNext g).2 hr' bh' ah' sl' rw' kp sp ko → FA h h' → NT (cNext g).1 (cNext g).2 hr bh ah rw_ hr' bh' ah' rw' → Q (some (vI (cNext g).1)) h') : Cl X kX6_next [vR 0] h Q := by
  have hS := hC.2.1
  have h2 := hC.2.2.1
  have hR := hI.r (by omega)
  refine sa_of h2 ?_
  refine cl_of rfl (Nat.le_of_ble_eq_true rfl) rfl ?_
  refine wp_aload_n dX6_next_0 rfl ?_
  refine wp_aload_n dX6_next_1 rfl ?_
  refine wp_getf dX6_next_2 fX6_10 (gs_ne (by decide) hC.1) rfl ?_
  refine sa_i0 hS dX6_next_5 VX5_passToFirstDue lX6_124 (rq0 rfl rfl) (Nat.le_of_ble_eq_true rfl) (C_wpassToFirstDue hS hI (by omega) ?_)
  dsimp only [pushR]
  have e : cNext g = _ := rfl
  rw [e] at hz hv hQ
  refine wp_iv1 dX6_next_8 VX6_noted lX6_89 (gs_ne (by decide) hC.1) (rq1 (0, 0) rfl (by decide) (by decide)) (Nat.le_of_ble_eq_true rfl) (N_noted (CA.s2 hC hz) hv (fun h' hr' bh' ah' sl' rw' k1 k2 k3 => ?_))
  dsimp only [pushR]
  exact wp_iret dX6_next_11 rfl (hQ h' hr' bh' ah' sl' rw' k1 (FA.s2.tr k2) k3)
end CA
