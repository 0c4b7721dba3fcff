/-! the reference's face: acts -/
section RA
variable {X : XS} {h h' : AH} {Q : Option AV → AH → Prop} {g Kp : Int → Int} {dn km ln ik : Int} {T P PS R Z I : Int → Int} {B : Int}
/-- how what is kept goes on behind an answer -/
def TO (v : Int) (g1 Kp : Int → Int) (dn km : Int) (Kp' : Int → Int) (dn' km' : Int) : Prop := (dNo v ∧ Kp' = Kp ∧ dn' = dn ∧ km' = km) ∨ (¬ dNo v ∧ dn ≠ 30 ∧ Kp' = cpI g1 Kp 0 ((dn + 1) * 1014) 1014 ∧ dn' = dn + 1 ∧ km' = dn + 1) ∨ (¬ dNo v ∧ dn = 30 ∧ Kp' = cpI g1 (cpI Kp Kp 1014 0 30420) 0 ((dn - 1 + 1) * 1014) 1014 ∧ dn' = dn - 1 + 1 ∧ km' = dn - 1 + 1)
theorem N_told {v : Int} (hM : MV h g Kp dn km T ln P PS R Z I ik) (hv : r32 v) (hd : 0 ≤ dn ∧ dn ≤ 30) (hQ : ∀ h' Kp' dn' km', MV h' g Kp' dn' km' T ln P PS R Z I ik → FRm h h' → TO v g Kp dn km Kp' dn' km' → Q (some (vI v)) h') : Cl X kX7_told [vR 51, vI v] h Q :=
  C_told hM hv hd (fun d => hQ _ _ _ _ hM FRm.rf (Or.inl ⟨d, rfl, rfl, rfl⟩)) (fun d e h' k1 k2 => hQ _ _ _ _ k1 k2 (Or.inr (Or.inl ⟨d, e, rfl, rfl, rfl⟩))) (fun d e h' k1 k2 => hQ _ _ _ _ k1 k2 (Or.inr (Or.inr ⟨d, e, rfl, rfl, rfl⟩)))
theorem m52 (hM : MV h g Kp dn km T ln P PS R Z I ik) : h[52]? = some (oI 1014 g) := hM.2.1
theorem apK_b (hI : IM B g) {r : Int} (hr : 0 ≤ r ∧ r < 3) (h : 0 ≤ g (10 + r) ∧ g (10 + r) < 60) : 0 ≤ apK g r ∧ apK g r < 10 := by
  have q := hI.jr (n := g (10 + r) + 1) (by omega)
  unfold apK
  omega
def rGet (g : Int → Int) (c k : Int) : Int × (Int → Int) := if 0 ≤ c ∧ c ≤ 5 then if 0 ≤ k ∧ k ≤ 9 then ((spGet g c k).1, (spGet g c k).2) else ((-1), g) else ((-1), g)
set_option maxHeartbeats 2000000 in
theorem F_rget {c k : Int} (hM : MV h g Kp dn km T ln P PS R Z I ik) (hI : IM B g) (hBB : B ≤ 8000000) (hd : 0 ≤ dn ∧ dn ≤ 30) (rc : r32 c) (rk : r32 k)  (hv : r32 (rGet g c k).1) (hQ : ∀ h' Kp' dn' km', MV h' (rGet g c k).2 Kp' dn' km' T ln P PS R Z I ik → FRm h h' → TO (rGet g c k).1 (rGet g c k).2 Kp dn km Kp' dn' km' → Q (some (vI (rGet g c k).1)) h') : Cl X kX7_get [vR 51, vI c, vI k] h Q := by
  have hS := hM.sa
  have h2 := m52 hM
  have hR := hI.r (by omega)
  have hB0 : 0 ≤ B := by have := hI.b 0; have := hI.n0 (j := 0) (by omega); omega
  refine sa_of h2 ?_
  refine cl_of rfl (Nat.le_of_ble_eq_true rfl) rfl ?_
  refine wp_iload_n dX7_get_0 rfl ?_
  refine wp_is1 dX7_get_1 SX7_isClient lX7_155 (rq0 rfl rfl) (Nat.le_of_ble_eq_true rfl) (C_isClient (by first | assumption | exact hR _ | exact hR2 _ | exact bI_r _ | (unfold r32; omega)) ?_)
  dsimp only [pushR]
  refine wp_beq 27 dX7_get_4 rfl (fun c4 => ?_) (fun c4 => ?_)
  · refine wp_iconst dX7_get_27 ?_
    exact wp_iret dX7_get_28 rfl (by have e : rGet g c k = _ := if_neg c4; rw [e] at hv hQ; rw [set_same h2]; exact hQ _ _ _ _ hM FRm.rf (Or.inl ⟨by unfold dNo; omega, rfl, rfl, rfl⟩))
  · refine wp_iload_n dX7_get_7 rfl ?_
    refine wp_is1 dX7_get_8 SX7_isKey lX7_158 (rq0 rfl rfl) (Nat.le_of_ble_eq_true rfl) (C_isKey (by first | assumption | exact hR _ | exact hR2 _ | exact bI_r _ | (unfold r32; omega)) ?_)
    dsimp only [pushR]
    refine wp_beq 27 dX7_get_11 rfl (fun c11 => ?_) (fun c11 => ?_)
    · refine wp_iconst dX7_get_27 ?_
      exact wp_iret dX7_get_28 rfl (by have e : rGet g c k = _ := (if_pos c4).trans (if_neg c11); rw [e] at hv hQ; rw [set_same h2]; exact hQ _ _ _ _ hM FRm.rf (Or.inl ⟨by unfold dNo; omega, rfl, rfl, rfl⟩))
    · refine wp_aload_n dX7_get_14 rfl ?_
      refine wp_aload_n dX7_get_15 rfl ?_
      refine wp_iload_n dX7_get_16 rfl ?_
      refine wp_iload_n dX7_get_17 rfl ?_
      refine sa_i2 hS dX7_get_18 VX7_doGet lX7_161 (rq0 rfl rfl) (Nat.le_of_ble_eq_true rfl) (C_doGet hS hI.bd (by omega) (by omega) (by omega) (hI.cl (by omega)).1 ?_)
      dsimp only [pushR]
      have e : rGet g c k = _ := (if_pos c4).trans (if_pos c11)
      rw [e] at hv hQ
      refine wp_iv1 dX7_get_21 VX7_told lX7_164 (MV.row hM).1.choose_spec.choose_spec.choose_spec.choose_spec.choose_spec.choose_spec.choose_spec.choose_spec (rq0 rfl rfl) (Nat.le_of_ble_eq_true rfl) (N_told (MV.row hM) hv hd (fun h' Kp' dn' km' k1 k2 k3 => ?_))
      dsimp only [pushR]
      refine wp_goto 28 dX7_get_24 rfl ?_
      exact wp_iret dX7_get_28 rfl (hQ h' Kp' dn' km' k1 ((FRm.st (by decide)).tr k2) k3)
def rLook (g : Int → Int) (c : Int) : Int × (Int → Int) := if 0 ≤ c ∧ c ≤ 5 then ((spLook g c).1, (spLook g c).2) else ((-1), g)
set_option maxHeartbeats 2000000 in
theorem F_rlook {c : Int} (hM : MV h g Kp dn km T ln P PS R Z I ik) (hI : IM B g) (hBB : B ≤ 8000000) (hd : 0 ≤ dn ∧ dn ≤ 30) (rc : r32 c)  (hv : r32 (rLook g c).1) (hQ : ∀ h' Kp' dn' km', MV h' (rLook g c).2 Kp' dn' km' T ln P PS R Z I ik → FRm h h' → TO (rLook g c).1 (rLook g c).2 Kp dn km Kp' dn' km' → Q (some (vI (rLook g c).1)) h') : Cl X kX7_look [vR 51, vI c] h Q := by
  have hS := hM.sa
  have h2 := m52 hM
  have hR := hI.r (by omega)
  have hB0 : 0 ≤ B := by have := hI.b 0; have := hI.n0 (j := 0) (by omega); omega
  refine sa_of h2 ?_
  refine cl_of rfl (Nat.le_of_ble_eq_true rfl) rfl ?_
  refine wp_iload_n dX7_look_0 rfl ?_
  refine wp_is1 dX7_look_1 SX7_isClient lX7_155 (rq0 rfl rfl) (Nat.le_of_ble_eq_true rfl) (C_isClient (by first | assumption | exact hR _ | exact hR2 _ | exact bI_r _ | (unfold r32; omega)) ?_)
  dsimp only [pushR]
  refine wp_beq 19 dX7_look_4 rfl (fun c4 => ?_) (fun c4 => ?_)
  · refine wp_iconst dX7_look_19 ?_
    exact wp_iret dX7_look_20 rfl (by have e : rLook g c = _ := if_neg c4; rw [e] at hv hQ; rw [set_same h2]; exact hQ _ _ _ _ hM FRm.rf (Or.inl ⟨by unfold dNo; omega, rfl, rfl, rfl⟩))
  · refine wp_aload_n dX7_look_7 rfl ?_
    refine wp_aload_n dX7_look_8 rfl ?_
    refine wp_iload_n dX7_look_9 rfl ?_
    refine sa_i1 hS dX7_look_10 VX7_doLook lX7_167 (rq0 rfl rfl) (Nat.le_of_ble_eq_true rfl) (C_doLook hS hI.bd (by omega) (by omega) (hI.cl (by omega)).2.1 (hI.cl (by omega)).1 (hI.n60 (by omega)) (fun r hr => hI.n60 (by omega)) ?_)
    dsimp only [pushR]
    have e : rLook g c = _ := if_pos c4
    rw [e] at hv hQ
    refine wp_iv1 dX7_look_13 VX7_told lX7_164 (MV.row hM).1.choose_spec.choose_spec.choose_spec.choose_spec.choose_spec.choose_spec.choose_spec.choose_spec (rq0 rfl rfl) (Nat.le_of_ble_eq_true rfl) (N_told (MV.row hM) hv hd (fun h' Kp' dn' km' k1 k2 k3 => ?_))
    dsimp only [pushR]
    refine wp_goto 20 dX7_look_16 rfl ?_
    exact wp_iret dX7_look_20 rfl (hQ h' Kp' dn' km' k1 ((FRm.st (by decide)).tr k2) k3)
def rFill (g : Int → Int) (c : Int) : Int × (Int → Int) := if 0 ≤ c ∧ c ≤ 5 then ((spFill g c).1, (spFill g c).2) else ((-1), g)
set_option maxHeartbeats 2000000 in
theorem F_rfill {c : Int} (hM : MV h g Kp dn km T ln P PS R Z I ik) (hI : IM B g) (hBB : B ≤ 8000000) (hd : 0 ≤ dn ∧ dn ≤ 30) (rc : r32 c)  (hv : r32 (rFill g c).1) (hQ : ∀ h' Kp' dn' km', MV h' (rFill g c).2 Kp' dn' km' T ln P PS R Z I ik → FRm h h' → TO (rFill g c).1 (rFill g c).2 Kp dn km Kp' dn' km' → Q (some (vI (rFill g c).1)) h') : Cl X kX7_fill [vR 51, vI c] h Q := by
  have hS := hM.sa
  have h2 := m52 hM
  have hR := hI.r (by omega)
  have hB0 : 0 ≤ B := by have := hI.b 0; have := hI.n0 (j := 0) (by omega); omega
  refine sa_of h2 ?_
  refine cl_of rfl (Nat.le_of_ble_eq_true rfl) rfl ?_
  refine wp_iload_n dX7_fill_0 rfl ?_
  refine wp_is1 dX7_fill_1 SX7_isClient lX7_155 (rq0 rfl rfl) (Nat.le_of_ble_eq_true rfl) (C_isClient (by first | assumption | exact hR _ | exact hR2 _ | exact bI_r _ | (unfold r32; omega)) ?_)
  dsimp only [pushR]
  refine wp_beq 19 dX7_fill_4 rfl (fun c4 => ?_) (fun c4 => ?_)
  · refine wp_iconst dX7_fill_19 ?_
    exact wp_iret dX7_fill_20 rfl (by have e : rFill g c = _ := if_neg c4; rw [e] at hv hQ; rw [set_same h2]; exact hQ _ _ _ _ hM FRm.rf (Or.inl ⟨by unfold dNo; omega, rfl, rfl, rfl⟩))
  · refine wp_aload_n dX7_fill_7 rfl ?_
    refine wp_aload_n dX7_fill_8 rfl ?_
    refine wp_iload_n dX7_fill_9 rfl ?_
    refine sa_i1 hS dX7_fill_10 VX7_doFill lX7_170 (rq0 rfl rfl) (Nat.le_of_ble_eq_true rfl) (C_doFill hS hI.bd (by omega) hB0 (by omega) (hI.cl (by omega)).2.1 (hI.cl (by omega)).1 (hI.n0 (by omega)) hI.set.1.1 ?_)
    dsimp only [pushR]
    have e : rFill g c = _ := if_pos c4
    rw [e] at hv hQ
    refine wp_iv1 dX7_fill_13 VX7_told lX7_164 (MV.row hM).1.choose_spec.choose_spec.choose_spec.choose_spec.choose_spec.choose_spec.choose_spec.choose_spec (rq0 rfl rfl) (Nat.le_of_ble_eq_true rfl) (N_told (MV.row hM) hv hd (fun h' Kp' dn' km' k1 k2 k3 => ?_))
    dsimp only [pushR]
    refine wp_goto 20 dX7_fill_16 rfl ?_
    exact wp_iret dX7_fill_20 rfl (hQ h' Kp' dn' km' k1 ((FRm.st (by decide)).tr k2) k3)
def rWrite (g : Int → Int) (c k v : Int) : Int × (Int → Int) := if 0 ≤ c ∧ c ≤ 5 then if 0 ≤ k ∧ k ≤ 9 then if 0 ≤ v ∧ v ≤ 999 then ((spWrite g c k v).1, (spWrite g c k v).2) else ((-1), g) else ((-1), g) else ((-1), g)
set_option maxHeartbeats 2000000 in
theorem F_rwrite {c k v : Int} (hM : MV h g Kp dn km T ln P PS R Z I ik) (hI : IM B g) (hBB : B ≤ 8000000) (hd : 0 ≤ dn ∧ dn ≤ 30) (rc : r32 c) (rk : r32 k) (rv : r32 v)  (hv : r32 (rWrite g c k v).1) (hQ : ∀ h' Kp' dn' km', MV h' (rWrite g c k v).2 Kp' dn' km' T ln P PS R Z I ik → FRm h h' → TO (rWrite g c k v).1 (rWrite g c k v).2 Kp dn km Kp' dn' km' → Q (some (vI (rWrite g c k v).1)) h') : Cl X kX7_write [vR 51, vI c, vI k, vI v] h Q := by
  have hS := hM.sa
  have h2 := m52 hM
  have hR := hI.r (by omega)
  have hB0 : 0 ≤ B := by have := hI.b 0; have := hI.n0 (j := 0) (by omega); omega
  refine sa_of h2 ?_
  refine cl_of rfl (Nat.le_of_ble_eq_true rfl) rfl ?_
  refine wp_iload_n dX7_write_0 rfl ?_
  refine wp_is1 dX7_write_1 SX7_isClient lX7_155 (rq0 rfl rfl) (Nat.le_of_ble_eq_true rfl) (C_isClient (by first | assumption | exact hR _ | exact hR2 _ | exact bI_r _ | (unfold r32; omega)) ?_)
  dsimp only [pushR]
  refine wp_beq 40 dX7_write_4 rfl (fun c4 => ?_) (fun c4 => ?_)
  · refine wp_iconst dX7_write_40 ?_
    exact wp_iret dX7_write_41 rfl (by have e : rWrite g c k v = _ := if_neg c4; rw [e] at hv hQ; rw [set_same h2]; exact hQ _ _ _ _ hM FRm.rf (Or.inl ⟨by unfold dNo; omega, rfl, rfl, rfl⟩))
  · refine wp_iload_n dX7_write_7 rfl ?_
    refine wp_is1 dX7_write_8 SX7_isKey lX7_158 (rq0 rfl rfl) (Nat.le_of_ble_eq_true rfl) (C_isKey (by first | assumption | exact hR _ | exact hR2 _ | exact bI_r _ | (unfold r32; omega)) ?_)
    dsimp only [pushR]
    refine wp_beq 40 dX7_write_11 rfl (fun c11 => ?_) (fun c11 => ?_)
    · refine wp_iconst dX7_write_40 ?_
      exact wp_iret dX7_write_41 rfl (by have e : rWrite g c k v = _ := (if_pos c4).trans (if_neg c11); rw [e] at hv hQ; rw [set_same h2]; exact hQ _ _ _ _ hM FRm.rf (Or.inl ⟨by unfold dNo; omega, rfl, rfl, rfl⟩))
    · refine wp_iload_n dX7_write_14 rfl ?_
      refine wp_i2l dX7_write_15 (by first | assumption | exact hR _ | exact hR2 _ | exact bI_r _ | (unfold r32; omega)) ?_
      refine wp_lconst (z := 0) dX7_write_16 rfl ?_
      refine wp_ldc2 dX7_write_17 cX7_173 ?_
      refine wp_is3 dX7_write_20 SX7_in lX7_94 (rq0 rfl rfl) (Nat.le_of_ble_eq_true rfl) (C_in (by first | assumption | (unfold r64 r32 at *; omega)) (by first | assumption | (unfold r64 r32 at *; omega)) (by first | assumption | (unfold r64 r32 at *; omega)) ?_)
      dsimp only [pushR]
      refine wp_beq 40 dX7_write_23 rfl (fun c23 => ?_) (fun c23 => ?_)
      · refine wp_iconst dX7_write_40 ?_
        exact wp_iret dX7_write_41 rfl (by have e : rWrite g c k v = _ := (if_pos c4).trans ((if_pos c11).trans (if_neg c23)); rw [e] at hv hQ; rw [set_same h2]; exact hQ _ _ _ _ hM FRm.rf (Or.inl ⟨by unfold dNo; omega, rfl, rfl, rfl⟩))
      · refine wp_aload_n dX7_write_26 rfl ?_
        refine wp_aload_n dX7_write_27 rfl ?_
        refine wp_iload_n dX7_write_28 rfl ?_
        refine wp_iload_n dX7_write_29 rfl ?_
        refine wp_iload_n dX7_write_30 rfl ?_
        refine sa_i3 hS dX7_write_31 VX7_doWrite lX7_175 (rq0 rfl rfl) (Nat.le_of_ble_eq_true rfl) (C_doWrite hS hI.bd (by omega) (by omega) (by omega) (by omega) (hI.cl (by omega)).1 (hI.n60 (by omega)) ?_)
        dsimp only [pushR]
        have e : rWrite g c k v = _ := (if_pos c4).trans ((if_pos c11).trans (if_pos c23))
        rw [e] at hv hQ
        refine wp_iv1 dX7_write_34 VX7_told lX7_164 (MV.row hM).1.choose_spec.choose_spec.choose_spec.choose_spec.choose_spec.choose_spec.choose_spec.choose_spec (rq0 rfl rfl) (Nat.le_of_ble_eq_true rfl) (N_told (MV.row hM) hv hd (fun h' Kp' dn' km' k1 k2 k3 => ?_))
        dsimp only [pushR]
        refine wp_goto 41 dX7_write_37 rfl ?_
        exact wp_iret dX7_write_41 rfl (hQ h' Kp' dn' km' k1 ((FRm.st (by decide)).tr k2) k3)
def rApply (g : Int → Int) (r : Int) : Int × (Int → Int) := if 0 ≤ r ∧ r ≤ 2 then ((spApply g r).1, (spApply g r).2) else ((-1), g)
set_option maxHeartbeats 2000000 in
theorem F_rapply {r : Int} (hM : MV h g Kp dn km T ln P PS R Z I ik) (hI : IM B g) (hBB : B ≤ 8000000) (hd : 0 ≤ dn ∧ dn ≤ 30) (rr : r32 r) (hP : PM g) (hv : r32 (rApply g r).1) (hQ : ∀ h' Kp' dn' km', MV h' (rApply g r).2 Kp' dn' km' T ln P PS R Z I ik → FRm h h' → TO (rApply g r).1 (rApply g r).2 Kp dn km Kp' dn' km' → Q (some (vI (rApply g r).1)) h') : Cl X kX7_apply [vR 51, vI r] h Q := by
  have hS := hM.sa
  have h2 := m52 hM
  have hR := hI.r (by omega)
  have hB0 : 0 ≤ B := by have := hI.b 0; have := hI.n0 (j := 0) (by omega); omega
  refine sa_of h2 ?_
  refine cl_of rfl (Nat.le_of_ble_eq_true rfl) rfl ?_
  refine wp_iload_n dX7_apply_0 rfl ?_
  refine wp_is1 dX7_apply_1 SX7_isRegion lX7_179 (rq0 rfl rfl) (Nat.le_of_ble_eq_true rfl) (C_isRegion (by first | assumption | exact hR _ | exact hR2 _ | exact bI_r _ | (unfold r32; omega)) ?_)
  dsimp only [pushR]
  refine wp_beq 19 dX7_apply_4 rfl (fun c4 => ?_) (fun c4 => ?_)
  · refine wp_iconst dX7_apply_19 ?_
    exact wp_iret dX7_apply_20 rfl (by have e : rApply g r = _ := if_neg c4; rw [e] at hv hQ; rw [set_same h2]; exact hQ _ _ _ _ hM FRm.rf (Or.inl ⟨by unfold dNo; omega, rfl, rfl, rfl⟩))
  · refine wp_aload_n dX7_apply_7 rfl ?_
    refine wp_aload_n dX7_apply_8 rfl ?_
    refine wp_iload_n dX7_apply_9 rfl ?_
    refine sa_i1 hS dX7_apply_10 VX7_doApply lX7_182 (rq0 rfl rfl) (Nat.le_of_ble_eq_true rfl) (C_doApply hS hI.bd (by omega) (by omega) (hI.n60 (by omega)) ⟨(hI.n60 (by omega)).1, hP _ (by omega)⟩ (fun q => apK_b hI (by omega) (by have := hP r (by omega); have := hI.n60 (j := 2) (by omega); have := hI.n60 (j := 10 + r) (by omega); omega)) hI.set.2.2.1 hI.set.2.2.2.2.1 (hI.n0 (by omega)) ?_)
    dsimp only [pushR]
    have e : rApply g r = _ := if_pos c4
    rw [e] at hv hQ
    refine wp_iv1 dX7_apply_13 VX7_told lX7_164 (MV.row hM).1.choose_spec.choose_spec.choose_spec.choose_spec.choose_spec.choose_spec.choose_spec.choose_spec (rq0 rfl rfl) (Nat.le_of_ble_eq_true rfl) (N_told (MV.row hM) hv hd (fun h' Kp' dn' km' k1 k2 k3 => ?_))
    dsimp only [pushR]
    refine wp_goto 20 dX7_apply_16 rfl ?_
    exact wp_iret dX7_apply_20 rfl (hQ h' Kp' dn' km' k1 ((FRm.st (by decide)).tr k2) k3)
def rTick (g : Int → Int) (n : Int) : Int × (Int → Int) := if 1 ≤ n ∧ n ≤ 50 then (g 0 + n, (ud g 0 (g 0 + n))) else ((-1), g)
set_option maxHeartbeats 2000000 in
theorem F_rtick {n : Int} (hM : MV h g Kp dn km T ln P PS R Z I ik) (hI : IM B g) (hBB : B ≤ 8000000) (hd : 0 ≤ dn ∧ dn ≤ 30) (rn : r32 n)  (hv : r32 (rTick g n).1) (hQ : ∀ h' Kp' dn' km', MV h' (rTick g n).2 Kp' dn' km' T ln P PS R Z I ik → FRm h h' → TO (rTick g n).1 (rTick g n).2 Kp dn km Kp' dn' km' → Q (some (vI (rTick g n).1)) h') : Cl X kX7_tick [vR 51, vI n] h Q := by
  have hS := hM.sa
  have h2 := m52 hM
  have hR := hI.r (by omega)
  have hB0 : 0 ≤ B := by have := hI.b 0; have := hI.n0 (j := 0) (by omega); omega
  refine sa_of h2 ?_
  refine cl_of rfl (Nat.le_of_ble_eq_true rfl) rfl ?_
  refine wp_iload_n dX7_tick_0 rfl ?_
  refine wp_i2l dX7_tick_1 (by first | assumption | exact hR _ | exact hR2 _ | exact bI_r _ | (unfold r32; omega)) ?_
  refine wp_lconst (z := 1) dX7_tick_2 rfl ?_
  refine wp_ldc2 dX7_tick_3 cX7_185 ?_
  refine wp_is3 dX7_tick_6 SX7_in lX7_94 (rq0 rfl rfl) (Nat.le_of_ble_eq_true rfl) (C_in (by first | assumption | (unfold r64 r32 at *; omega)) (by first | assumption | (unfold r64 r32 at *; omega)) (by first | assumption | (unfold r64 r32 at *; omega)) ?_)
  dsimp only [pushR]
  refine wp_bne 14 dX7_tick_9 rfl (fun c9 => ?_) (fun c9 => ?_)
  · refine wp_aload_n dX7_tick_14 rfl ?_
    refine sa_get hS dX7_tick_15 fX7_9 ?_
    refine wp_iconst dX7_tick_18 ?_
    refine wp_dup2 dX7_tick_19 rfl rfl ?_
    refine sa_ld (v := g 0) hS dX7_tick_20 (by decide) (by first | omega | (unfold eA; omega) | (unfold oA; omega) | (unfold lA; omega) | (unfold dA; omega) | (unfold hA; omega)) rfl ?_
    refine wp_iload_n dX7_tick_21 rfl ?_
    refine wp_iadd dX7_tick_22 ?_
    refine sa_st hS dX7_tick_23 (by decide) (by first | omega | (unfold eA; omega) | (unfold oA; omega) | (unfold lA; omega) | (unfold dA; omega) | (unfold hA; omega)) ?_
    refine wp_aload_n dX7_tick_24 rfl ?_
    refine wp_aload_n dX7_tick_25 rfl ?_
    refine sa_get hS dX7_tick_26 fX7_9 ?_
    refine wp_iconst dX7_tick_29 ?_
    refine sa_ld (v := g 0 + n) hS dX7_tick_30 (by decide) (by first | omega | (unfold eA; omega) | (unfold oA; omega) | (unfold lA; omega) | (unfold dA; omega) | (unfold hA; omega)) (by rw [ud_eq] <;> rfl) ?_
    have e : rTick g n = _ := if_pos c9
    rw [e] at hv hQ
    refine wp_iv1 dX7_tick_31 VX7_told lX7_164 (MV.row hM).1.choose_spec.choose_spec.choose_spec.choose_spec.choose_spec.choose_spec.choose_spec.choose_spec (rq0 rfl rfl) (Nat.le_of_ble_eq_true rfl) (N_told (MV.row hM) hv hd (fun h' Kp' dn' km' k1 k2 k3 => ?_))
    dsimp only [pushR]
    exact wp_iret dX7_tick_34 rfl (hQ h' Kp' dn' km' k1 ((FRm.st (by decide)).tr k2) k3)
  · refine wp_iconst dX7_tick_12 ?_
    exact wp_iret dX7_tick_13 rfl (by have e : rTick g n = _ := if_neg c9; rw [e] at hv hQ; rw [set_same h2]; exact hQ _ _ _ _ hM FRm.rf (Or.inl ⟨by unfold dNo; omega, rfl, rfl, rfl⟩))
def rCold (g : Int → Int) (a v : Int) : Int × (Int → Int) := if 0 ≤ a ∧ a ≤ 5 then if 0 ≤ v ∧ v ≤ 1 then (g (216 + a), spCold g a v) else ((-1), g) else ((-1), g)
set_option maxHeartbeats 2000000 in
theorem F_rcold {a v : Int} (hM : MV h g Kp dn km T ln P PS R Z I ik) (hI : IM B g) (hBB : B ≤ 8000000) (hd : 0 ≤ dn ∧ dn ≤ 30) (ra : r32 a) (rv : r32 v)  (hv : r32 (rCold g a v).1) (hQ : ∀ h' Kp' dn' km', MV h' (rCold g a v).2 Kp' dn' km' T ln P PS R Z I ik → FRm h h' → TO (rCold g a v).1 (rCold g a v).2 Kp dn km Kp' dn' km' → Q (some (vI (rCold g a v).1)) h') : Cl X kX7_cold [vR 51, vI a, vI v] h Q := by
  have hS := hM.sa
  have h2 := m52 hM
  have hR := hI.r (by omega)
  have hB0 : 0 ≤ B := by have := hI.b 0; have := hI.n0 (j := 0) (by omega); omega
  refine sa_of h2 ?_
  refine cl_of rfl (Nat.le_of_ble_eq_true rfl) rfl ?_
  refine wp_iload_n dX7_cold_0 rfl ?_
  refine wp_is1 dX7_cold_1 SX7_isGroup lX7_187 (rq0 rfl rfl) (Nat.le_of_ble_eq_true rfl) (C_isGroup (by first | assumption | exact hR _ | exact hR2 _ | exact bI_r _ | (unfold r32; omega)) ?_)
  dsimp only [pushR]
  refine wp_beq 17 dX7_cold_4 rfl (fun c4 => ?_) (fun c4 => ?_)
  · refine wp_iconst dX7_cold_17 ?_
    exact wp_iret dX7_cold_18 rfl (by have e : rCold g a v = _ := if_neg c4; rw [e] at hv hQ; rw [set_same h2]; exact hQ _ _ _ _ hM FRm.rf (Or.inl ⟨by unfold dNo; omega, rfl, rfl, rfl⟩))
  · refine wp_iload_n dX7_cold_7 rfl ?_
    refine wp_i2l dX7_cold_8 (by first | assumption | exact hR _ | exact hR2 _ | exact bI_r _ | (unfold r32; omega)) ?_
    refine wp_lconst (z := 0) dX7_cold_9 rfl ?_
    refine wp_lconst (z := 1) dX7_cold_10 rfl ?_
    refine wp_is3 dX7_cold_11 SX7_in lX7_94 (rq0 rfl rfl) (Nat.le_of_ble_eq_true rfl) (C_in (by first | assumption | (unfold r64 r32 at *; omega)) (by first | assumption | (unfold r64 r32 at *; omega)) (by first | assumption | (unfold r64 r32 at *; omega)) ?_)
    dsimp only [pushR]
    refine wp_bne 19 dX7_cold_14 rfl (fun c14 => ?_) (fun c14 => ?_)
    · refine wp_aload_n dX7_cold_19 rfl ?_
      refine sa_get hS dX7_cold_20 fX7_9 ?_
      refine wp_sipush dX7_cold_23 rfl ?_
      refine wp_iload_n dX7_cold_26 rfl ?_
      refine wp_iadd dX7_cold_27 ?_
      refine sa_ld (v := g (216 + a)) hS dX7_cold_28 (by decide) (by first | omega | (unfold eA; omega) | (unfold oA; omega) | (unfold lA; omega) | (unfold dA; omega) | (unfold hA; omega)) rfl ?_
      refine wp_istore_n (L' := [some (vR 51), some (vI a), some (vI v), some (vI (g (216 + a)))]) dX7_cold_29 (by decide) rfl ?_
      refine wp_aload_n dX7_cold_30 rfl ?_
      refine wp_iload_n dX7_cold_31 rfl ?_
      refine wp_iload_n dX7_cold_32 rfl ?_
      refine sa_i2 hS dX7_cold_33 VX7_doCold lX7_190 (rq0 rfl rfl) (Nat.le_of_ble_eq_true rfl) (C_doCold hS hR (by omega) (by omega) ?_)
      dsimp only [pushR]
      refine wp_aload_n dX7_cold_36 rfl ?_
      refine wp_iload_n dX7_cold_37 rfl ?_
      have e : rCold g a v = _ := (if_pos c4).trans (if_pos c14)
      rw [e] at hv hQ
      refine wp_iv1 dX7_cold_38 VX7_told lX7_164 (MV.row hM).1.choose_spec.choose_spec.choose_spec.choose_spec.choose_spec.choose_spec.choose_spec.choose_spec (rq0 rfl rfl) (Nat.le_of_ble_eq_true rfl) (N_told (MV.row hM) hv hd (fun h' Kp' dn' km' k1 k2 k3 => ?_))
      dsimp only [pushR]
      exact wp_iret dX7_cold_41 rfl (hQ h' Kp' dn' km' k1 ((FRm.st (by decide)).tr k2) k3)
    · refine wp_iconst dX7_cold_17 ?_
      exact wp_iret dX7_cold_18 rfl (by have e : rCold g a v = _ := (if_pos c4).trans (if_neg c14); rw [e] at hv hQ; rw [set_same h2]; exact hQ _ _ _ _ hM FRm.rf (Or.inl ⟨by unfold dNo; omega, rfl, rfl, rfl⟩))
def rGo (g : Int → Int) (c a : Int) : Int × (Int → Int) := if 0 ≤ c ∧ c ≤ 5 then if 0 ≤ a ∧ a ≤ 5 then (g (hA c + 0), (ud (ud g (hA c + 0) a) (hA c + 1) (-1))) else ((-1), g) else ((-1), g)
set_option maxHeartbeats 2000000 in
theorem F_rgo {c a : Int} (hM : MV h g Kp dn km T ln P PS R Z I ik) (hI : IM B g) (hBB : B ≤ 8000000) (hd : 0 ≤ dn ∧ dn ≤ 30) (rc : r32 c) (ra : r32 a)  (hv : r32 (rGo g c a).1) (hQ : ∀ h' Kp' dn' km', MV h' (rGo g c a).2 Kp' dn' km' T ln P PS R Z I ik → FRm h h' → TO (rGo g c a).1 (rGo g c a).2 Kp dn km Kp' dn' km' → Q (some (vI (rGo g c a).1)) h') : Cl X kX7_go [vR 51, vI c, vI a] h Q := by
  have hS := hM.sa
  have h2 := m52 hM
  have hR := hI.r (by omega)
  have hB0 : 0 ≤ B := by have := hI.b 0; have := hI.n0 (j := 0) (by omega); omega
  refine sa_of h2 ?_
  refine cl_of rfl (Nat.le_of_ble_eq_true rfl) rfl ?_
  refine wp_iload_n dX7_go_0 rfl ?_
  refine wp_is1 dX7_go_1 SX7_isClient lX7_155 (rq0 rfl rfl) (Nat.le_of_ble_eq_true rfl) (C_isClient (by first | assumption | exact hR _ | exact hR2 _ | exact bI_r _ | (unfold r32; omega)) ?_)
  dsimp only [pushR]
  refine wp_beq 14 dX7_go_4 rfl (fun c4 => ?_) (fun c4 => ?_)
  · refine wp_iconst dX7_go_14 ?_
    exact wp_iret dX7_go_15 rfl (by have e : rGo g c a = _ := if_neg c4; rw [e] at hv hQ; rw [set_same h2]; exact hQ _ _ _ _ hM FRm.rf (Or.inl ⟨by unfold dNo; omega, rfl, rfl, rfl⟩))
  · refine wp_iload_n dX7_go_7 rfl ?_
    refine wp_is1 dX7_go_8 SX7_isGroup lX7_187 (rq0 rfl rfl) (Nat.le_of_ble_eq_true rfl) (C_isGroup (by first | assumption | exact hR _ | exact hR2 _ | exact bI_r _ | (unfold r32; omega)) ?_)
    dsimp only [pushR]
    refine wp_bne 16 dX7_go_11 rfl (fun c11 => ?_) (fun c11 => ?_)
    · refine wp_aload_n dX7_go_16 rfl ?_
      refine wp_iload_n dX7_go_17 rfl ?_
      refine sa_i1 hS dX7_go_18 VX7_groupOf lX7_109 (rq0 rfl rfl) (Nat.le_of_ble_eq_true rfl) (C_groupOf (v := g (hA c + 0)) hS (by omega) rfl ?_)
      dsimp only [pushR]
      refine wp_istore_n (L' := [some (vR 51), some (vI c), some (vI a), some (vI (g (hA c + 0)))]) dX7_go_21 (by decide) rfl ?_
      refine wp_aload_n dX7_go_22 rfl ?_
      refine sa_get hS dX7_go_23 fX7_9 ?_
      refine wp_iload_n dX7_go_26 rfl ?_
      refine wp_is1 dX7_go_27 SX7_hand lX7_82 (rq0 rfl rfl) (Nat.le_of_ble_eq_true rfl) (C_hand ?_)
      dsimp only [pushR]
      refine wp_iconst dX7_go_30 ?_
      refine wp_iadd dX7_go_31 ?_
      refine wp_iload_n dX7_go_32 rfl ?_
      refine sa_st hS dX7_go_33 (by decide) (by first | omega | (unfold eA; omega) | (unfold oA; omega) | (unfold lA; omega) | (unfold dA; omega) | (unfold hA; omega)) ?_
      refine wp_aload_n dX7_go_34 rfl ?_
      refine sa_get hS dX7_go_35 fX7_9 ?_
      refine wp_iload_n dX7_go_38 rfl ?_
      refine wp_is1 dX7_go_39 SX7_hand lX7_82 (rq0 rfl rfl) (Nat.le_of_ble_eq_true rfl) (C_hand ?_)
      dsimp only [pushR]
      refine wp_iconst dX7_go_42 ?_
      refine wp_iadd dX7_go_43 ?_
      refine wp_iconst dX7_go_44 ?_
      refine sa_st hS dX7_go_45 (by decide) (by first | omega | (unfold eA; omega) | (unfold oA; omega) | (unfold lA; omega) | (unfold dA; omega) | (unfold hA; omega)) ?_
      refine wp_aload_n dX7_go_46 rfl ?_
      refine wp_iload_n dX7_go_47 rfl ?_
      have e : rGo g c a = _ := (if_pos c4).trans (if_pos c11)
      rw [e] at hv hQ
      refine wp_iv1 dX7_go_48 VX7_told lX7_164 (MV.row hM).1.choose_spec.choose_spec.choose_spec.choose_spec.choose_spec.choose_spec.choose_spec.choose_spec (rq0 rfl rfl) (Nat.le_of_ble_eq_true rfl) (N_told (MV.row hM) hv hd (fun h' Kp' dn' km' k1 k2 k3 => ?_))
      dsimp only [pushR]
      exact wp_iret dX7_go_51 rfl (hQ h' Kp' dn' km' k1 ((FRm.st (by decide)).tr k2) k3)
    · refine wp_iconst dX7_go_14 ?_
      exact wp_iret dX7_go_15 rfl (by have e : rGo g c a = _ := (if_pos c4).trans (if_neg c11); rw [e] at hv hQ; rw [set_same h2]; exact hQ _ _ _ _ hM FRm.rf (Or.inl ⟨by unfold dNo; omega, rfl, rfl, rfl⟩))
def rSet0 (g : Int → Int) (v : Int) : Int × (Int → Int) := if 1 ≤ v ∧ v ≤ 8 then (g (3 + 0), (ud g (3 + 0) v)) else ((-1), g)
set_option maxHeartbeats 2000000 in
theorem F_rset0 {v : Int} (hM : MV h g Kp dn km T ln P PS R Z I ik) (hI : IM B g) (hBB : B ≤ 8000000) (hd : 0 ≤ dn ∧ dn ≤ 30) (rv : r32 v)  (hv : r32 (rSet0 g v).1) (hQ : ∀ h' Kp' dn' km', MV h' (rSet0 g v).2 Kp' dn' km' T ln P PS R Z I ik → FRm h h' → TO (rSet0 g v).1 (rSet0 g v).2 Kp dn km Kp' dn' km' → Q (some (vI (rSet0 g v).1)) h') : Cl X kX7_set [vR 51, vI 0, vI v] h Q := by
  have hS := hM.sa
  have h2 := m52 hM
  have hR := hI.r (by omega)
  have hB0 : 0 ≤ B := by have := hI.b 0; have := hI.n0 (j := 0) (by omega); omega
  refine sa_of h2 ?_
  refine cl_of rfl (Nat.le_of_ble_eq_true rfl) rfl ?_
  refine wp_iload_n dX7_set_0 rfl ?_
  refine wp_i2l dX7_set_1 ⟨by omega, by omega⟩ ?_
  refine wp_lconst (z := 0) dX7_set_2 rfl ?_
  refine wp_ldc2 dX7_set_3 cX7_193 ?_
  refine wp_is3 dX7_set_6 SX7_in lX7_94 (rq0 rfl rfl) (Nat.le_of_ble_eq_true rfl) (C_in (by first | assumption | (unfold r64 r32 at *; omega)) (by first | assumption | (unfold r64 r32 at *; omega)) (by first | assumption | (unfold r64 r32 at *; omega)) ?_)
  dsimp only [pushR]
  refine wp_bne 14 dX7_set_9 rfl (fun c9 => ?_) (fun c9 => ?_)
  · refine wp_iconst dX7_set_14 ?_
    refine wp_istore_n (L' := [some (vR 51), some (vI 0), some (vI v), some (vI 0), none, none]) dX7_set_15 (by decide) rfl ?_
    refine wp_bipush dX7_set_16 rfl ?_
    refine wp_istore (L' := [some (vR 51), some (vI 0), some (vI v), some (vI 0), some (vI 20), none]) dX7_set_18 (by decide) rfl ?_
    refine wp_iload_n dX7_set_20 rfl ?_
    refine wp_if_eq 34 dX7_set_21 rfl ⟨by omega, by omega⟩ (fun c21 => ?_) (fun c21 => absurd c21 (by omega))
    refine wp_iconst dX7_set_34 ?_
    refine wp_istore_n (L' := [some (vR 51), some (vI 0), some (vI v), some (vI 1), some (vI 20), none]) dX7_set_35 (by decide) rfl ?_
    refine wp_iload_n dX7_set_36 rfl ?_
    refine wp_if_ne 44 dX7_set_37 rfl ⟨by omega, by omega⟩ (fun c37 => absurd c37 (by omega)) (fun c37 => ?_)
    refine wp_bipush dX7_set_40 rfl ?_
    refine wp_istore (L' := [some (vR 51), some (vI 0), some (vI v), some (vI 1), some (vI 8), none]) dX7_set_42 (by decide) rfl ?_
    refine wp_iload_n dX7_set_44 rfl ?_
    refine wp_iconst dX7_set_45 ?_
    refine wp_icmp_ne 53 dX7_set_46 rfl ⟨by omega, by omega⟩ ⟨by omega, by omega⟩ (fun c46 => ?_) (fun c46 => absurd c46 (by omega))
    refine wp_iload_n dX7_set_53 rfl ?_
    refine wp_iconst dX7_set_54 ?_
    refine wp_icmp_ne 61 dX7_set_55 rfl ⟨by omega, by omega⟩ ⟨by omega, by omega⟩ (fun c55 => ?_) (fun c55 => absurd c55 (by omega))
    refine wp_iload_n dX7_set_61 rfl ?_
    refine wp_bipush dX7_set_62 rfl ?_
    refine wp_icmp_ne 70 dX7_set_64 rfl ⟨by omega, by omega⟩ ⟨by omega, by omega⟩ (fun c64 => ?_) (fun c64 => absurd c64 (by omega))
    refine wp_iload_n dX7_set_70 rfl ?_
    refine wp_i2l dX7_set_71 (by first | assumption | exact hR _ | exact hR2 _ | exact bI_r _ | (unfold r32; omega)) ?_
    refine wp_iload_n dX7_set_72 rfl ?_
    refine wp_i2l dX7_set_73 ⟨by omega, by omega⟩ ?_
    refine wp_iload dX7_set_74 rfl ?_
    refine wp_i2l dX7_set_76 ⟨by omega, by omega⟩ ?_
    refine wp_is3 dX7_set_77 SX7_in lX7_94 (rq0 rfl rfl) (Nat.le_of_ble_eq_true rfl) (C_in (by first | assumption | (unfold r64 r32 at *; omega)) (by first | assumption | (unfold r64 r32 at *; omega)) (by first | assumption | (unfold r64 r32 at *; omega)) ?_)
    dsimp only [pushR]
    refine wp_bne 85 dX7_set_80 rfl (fun c80 => ?_) (fun c80 => ?_)
    · refine wp_aload_n dX7_set_85 rfl ?_
      refine sa_get hS dX7_set_86 fX7_9 ?_
      refine wp_iconst dX7_set_89 ?_
      refine wp_iload_n dX7_set_90 rfl ?_
      refine wp_iadd dX7_set_91 ?_
      refine sa_ld (v := g (3 + 0)) hS dX7_set_92 (by decide) (by first | omega | (unfold eA; omega) | (unfold oA; omega) | (unfold lA; omega) | (unfold dA; omega) | (unfold hA; omega)) rfl ?_
      refine wp_istore (L' := [some (vR 51), some (vI 0), some (vI v), some (vI 1), some (vI 8), some (vI (g (3 + 0)))]) dX7_set_93 (by decide) rfl ?_
      refine wp_aload_n dX7_set_95 rfl ?_
      refine sa_get hS dX7_set_96 fX7_9 ?_
      refine wp_iconst dX7_set_99 ?_
      refine wp_iload_n dX7_set_100 rfl ?_
      refine wp_iadd dX7_set_101 ?_
      refine wp_iload_n dX7_set_102 rfl ?_
      refine sa_st hS dX7_set_103 (by decide) (by first | omega | (unfold eA; omega) | (unfold oA; omega) | (unfold lA; omega) | (unfold dA; omega) | (unfold hA; omega)) ?_
      refine wp_aload_n dX7_set_104 rfl ?_
      refine wp_iload dX7_set_105 rfl ?_
      have e : rSet0 g v = _ := if_pos c80
      rw [e] at hv hQ
      refine wp_iv1 dX7_set_107 VX7_told lX7_164 (MV.row hM).1.choose_spec.choose_spec.choose_spec.choose_spec.choose_spec.choose_spec.choose_spec.choose_spec (rq0 rfl rfl) (Nat.le_of_ble_eq_true rfl) (N_told (MV.row hM) hv hd (fun h' Kp' dn' km' k1 k2 k3 => ?_))
      dsimp only [pushR]
      exact wp_iret dX7_set_110 rfl (hQ h' Kp' dn' km' k1 ((FRm.st (by decide)).tr k2) k3)
    · refine wp_iconst dX7_set_83 ?_
      exact wp_iret dX7_set_84 rfl (by have e : rSet0 g v = _ := if_neg c80; rw [e] at hv hQ; rw [set_same h2]; exact hQ _ _ _ _ hM FRm.rf (Or.inl ⟨by unfold dNo; omega, rfl, rfl, rfl⟩))
  · omega
def rSet1 (g : Int → Int) (v : Int) : Int × (Int → Int) := if 1 ≤ v ∧ v ≤ 99 then (g (3 + 1), (ud g (3 + 1) v)) else ((-1), g)
set_option maxHeartbeats 2000000 in
theorem F_rset1 {v : Int} (hM : MV h g Kp dn km T ln P PS R Z I ik) (hI : IM B g) (hBB : B ≤ 8000000) (hd : 0 ≤ dn ∧ dn ≤ 30) (rv : r32 v)  (hv : r32 (rSet1 g v).1) (hQ : ∀ h' Kp' dn' km', MV h' (rSet1 g v).2 Kp' dn' km' T ln P PS R Z I ik → FRm h h' → TO (rSet1 g v).1 (rSet1 g v).2 Kp dn km Kp' dn' km' → Q (some (vI (rSet1 g v).1)) h') : Cl X kX7_set [vR 51, vI 1, vI v] h Q := by
  have hS := hM.sa
  have h2 := m52 hM
  have hR := hI.r (by omega)
  have hB0 : 0 ≤ B := by have := hI.b 0; have := hI.n0 (j := 0) (by omega); omega
  refine sa_of h2 ?_
  refine cl_of rfl (Nat.le_of_ble_eq_true rfl) rfl ?_
  refine wp_iload_n dX7_set_0 rfl ?_
  refine wp_i2l dX7_set_1 ⟨by omega, by omega⟩ ?_
  refine wp_lconst (z := 0) dX7_set_2 rfl ?_
  refine wp_ldc2 dX7_set_3 cX7_193 ?_
  refine wp_is3 dX7_set_6 SX7_in lX7_94 (rq0 rfl rfl) (Nat.le_of_ble_eq_true rfl) (C_in (by first | assumption | (unfold r64 r32 at *; omega)) (by first | assumption | (unfold r64 r32 at *; omega)) (by first | assumption | (unfold r64 r32 at *; omega)) ?_)
  dsimp only [pushR]
  refine wp_bne 14 dX7_set_9 rfl (fun c9 => ?_) (fun c9 => ?_)
  · refine wp_iconst dX7_set_14 ?_
    refine wp_istore_n (L' := [some (vR 51), some (vI 1), some (vI v), some (vI 0), none, none]) dX7_set_15 (by decide) rfl ?_
    refine wp_bipush dX7_set_16 rfl ?_
    refine wp_istore (L' := [some (vR 51), some (vI 1), some (vI v), some (vI 0), some (vI 20), none]) dX7_set_18 (by decide) rfl ?_
    refine wp_iload_n dX7_set_20 rfl ?_
    refine wp_if_eq 34 dX7_set_21 rfl ⟨by omega, by omega⟩ (fun c21 => absurd c21 (by omega)) (fun c21 => ?_)
    refine wp_iload_n dX7_set_24 rfl ?_
    refine wp_iconst dX7_set_25 ?_
    refine wp_icmp_eq 34 dX7_set_26 rfl ⟨by omega, by omega⟩ ⟨by omega, by omega⟩ (fun c26 => ?_) (fun c26 => absurd c26 (by omega))
    refine wp_iconst dX7_set_34 ?_
    refine wp_istore_n (L' := [some (vR 51), some (vI 1), some (vI v), some (vI 1), some (vI 20), none]) dX7_set_35 (by decide) rfl ?_
    refine wp_iload_n dX7_set_36 rfl ?_
    refine wp_if_ne 44 dX7_set_37 rfl ⟨by omega, by omega⟩ (fun c37 => ?_) (fun c37 => absurd c37 (by omega))
    refine wp_iload_n dX7_set_44 rfl ?_
    refine wp_iconst dX7_set_45 ?_
    refine wp_icmp_ne 53 dX7_set_46 rfl ⟨by omega, by omega⟩ ⟨by omega, by omega⟩ (fun c46 => absurd c46 (by omega)) (fun c46 => ?_)
    refine wp_bipush dX7_set_49 rfl ?_
    refine wp_istore (L' := [some (vR 51), some (vI 1), some (vI v), some (vI 1), some (vI 99), none]) dX7_set_51 (by decide) rfl ?_
    refine wp_iload_n dX7_set_53 rfl ?_
    refine wp_iconst dX7_set_54 ?_
    refine wp_icmp_ne 61 dX7_set_55 rfl ⟨by omega, by omega⟩ ⟨by omega, by omega⟩ (fun c55 => ?_) (fun c55 => absurd c55 (by omega))
    refine wp_iload_n dX7_set_61 rfl ?_
    refine wp_bipush dX7_set_62 rfl ?_
    refine wp_icmp_ne 70 dX7_set_64 rfl ⟨by omega, by omega⟩ ⟨by omega, by omega⟩ (fun c64 => ?_) (fun c64 => absurd c64 (by omega))
    refine wp_iload_n dX7_set_70 rfl ?_
    refine wp_i2l dX7_set_71 (by first | assumption | exact hR _ | exact hR2 _ | exact bI_r _ | (unfold r32; omega)) ?_
    refine wp_iload_n dX7_set_72 rfl ?_
    refine wp_i2l dX7_set_73 ⟨by omega, by omega⟩ ?_
    refine wp_iload dX7_set_74 rfl ?_
    refine wp_i2l dX7_set_76 ⟨by omega, by omega⟩ ?_
    refine wp_is3 dX7_set_77 SX7_in lX7_94 (rq0 rfl rfl) (Nat.le_of_ble_eq_true rfl) (C_in (by first | assumption | (unfold r64 r32 at *; omega)) (by first | assumption | (unfold r64 r32 at *; omega)) (by first | assumption | (unfold r64 r32 at *; omega)) ?_)
    dsimp only [pushR]
    refine wp_bne 85 dX7_set_80 rfl (fun c80 => ?_) (fun c80 => ?_)
    · refine wp_aload_n dX7_set_85 rfl ?_
      refine sa_get hS dX7_set_86 fX7_9 ?_
      refine wp_iconst dX7_set_89 ?_
      refine wp_iload_n dX7_set_90 rfl ?_
      refine wp_iadd dX7_set_91 ?_
      refine sa_ld (v := g (3 + 1)) hS dX7_set_92 (by decide) (by first | omega | (unfold eA; omega) | (unfold oA; omega) | (unfold lA; omega) | (unfold dA; omega) | (unfold hA; omega)) rfl ?_
      refine wp_istore (L' := [some (vR 51), some (vI 1), some (vI v), some (vI 1), some (vI 99), some (vI (g (3 + 1)))]) dX7_set_93 (by decide) rfl ?_
      refine wp_aload_n dX7_set_95 rfl ?_
      refine sa_get hS dX7_set_96 fX7_9 ?_
      refine wp_iconst dX7_set_99 ?_
      refine wp_iload_n dX7_set_100 rfl ?_
      refine wp_iadd dX7_set_101 ?_
      refine wp_iload_n dX7_set_102 rfl ?_
      refine sa_st hS dX7_set_103 (by decide) (by first | omega | (unfold eA; omega) | (unfold oA; omega) | (unfold lA; omega) | (unfold dA; omega) | (unfold hA; omega)) ?_
      refine wp_aload_n dX7_set_104 rfl ?_
      refine wp_iload dX7_set_105 rfl ?_
      have e : rSet1 g v = _ := if_pos c80
      rw [e] at hv hQ
      refine wp_iv1 dX7_set_107 VX7_told lX7_164 (MV.row hM).1.choose_spec.choose_spec.choose_spec.choose_spec.choose_spec.choose_spec.choose_spec.choose_spec (rq0 rfl rfl) (Nat.le_of_ble_eq_true rfl) (N_told (MV.row hM) hv hd (fun h' Kp' dn' km' k1 k2 k3 => ?_))
      dsimp only [pushR]
      exact wp_iret dX7_set_110 rfl (hQ h' Kp' dn' km' k1 ((FRm.st (by decide)).tr k2) k3)
    · refine wp_iconst dX7_set_83 ?_
      exact wp_iret dX7_set_84 rfl (by have e : rSet1 g v = _ := if_neg c80; rw [e] at hv hQ; rw [set_same h2]; exact hQ _ _ _ _ hM FRm.rf (Or.inl ⟨by unfold dNo; omega, rfl, rfl, rfl⟩))
  · omega
def rSet2 (g : Int → Int) (v : Int) : Int × (Int → Int) := if 0 ≤ v ∧ v ≤ 20 then (g (3 + 2), (ud g (3 + 2) v)) else ((-1), g)
set_option maxHeartbeats 2000000 in
theorem F_rset2 {v : Int} (hM : MV h g Kp dn km T ln P PS R Z I ik) (hI : IM B g) (hBB : B ≤ 8000000) (hd : 0 ≤ dn ∧ dn ≤ 30) (rv : r32 v)  (hv : r32 (rSet2 g v).1) (hQ : ∀ h' Kp' dn' km', MV h' (rSet2 g v).2 Kp' dn' km' T ln P PS R Z I ik → FRm h h' → TO (rSet2 g v).1 (rSet2 g v).2 Kp dn km Kp' dn' km' → Q (some (vI (rSet2 g v).1)) h') : Cl X kX7_set [vR 51, vI 2, vI v] h Q := by
  have hS := hM.sa
  have h2 := m52 hM
  have hR := hI.r (by omega)
  have hB0 : 0 ≤ B := by have := hI.b 0; have := hI.n0 (j := 0) (by omega); omega
  refine sa_of h2 ?_
  refine cl_of rfl (Nat.le_of_ble_eq_true rfl) rfl ?_
  refine wp_iload_n dX7_set_0 rfl ?_
  refine wp_i2l dX7_set_1 ⟨by omega, by omega⟩ ?_
  refine wp_lconst (z := 0) dX7_set_2 rfl ?_
  refine wp_ldc2 dX7_set_3 cX7_193 ?_
  refine wp_is3 dX7_set_6 SX7_in lX7_94 (rq0 rfl rfl) (Nat.le_of_ble_eq_true rfl) (C_in (by first | assumption | (unfold r64 r32 at *; omega)) (by first | assumption | (unfold r64 r32 at *; omega)) (by first | assumption | (unfold r64 r32 at *; omega)) ?_)
  dsimp only [pushR]
  refine wp_bne 14 dX7_set_9 rfl (fun c9 => ?_) (fun c9 => ?_)
  · refine wp_iconst dX7_set_14 ?_
    refine wp_istore_n (L' := [some (vR 51), some (vI 2), some (vI v), some (vI 0), none, none]) dX7_set_15 (by decide) rfl ?_
    refine wp_bipush dX7_set_16 rfl ?_
    refine wp_istore (L' := [some (vR 51), some (vI 2), some (vI v), some (vI 0), some (vI 20), none]) dX7_set_18 (by decide) rfl ?_
    refine wp_iload_n dX7_set_20 rfl ?_
    refine wp_if_eq 34 dX7_set_21 rfl ⟨by omega, by omega⟩ (fun c21 => absurd c21 (by omega)) (fun c21 => ?_)
    refine wp_iload_n dX7_set_24 rfl ?_
    refine wp_iconst dX7_set_25 ?_
    refine wp_icmp_eq 34 dX7_set_26 rfl ⟨by omega, by omega⟩ ⟨by omega, by omega⟩ (fun c26 => absurd c26 (by omega)) (fun c26 => ?_)
    refine wp_iload_n dX7_set_29 rfl ?_
    refine wp_iconst dX7_set_30 ?_
    refine wp_icmp_ne 36 dX7_set_31 rfl ⟨by omega, by omega⟩ ⟨by omega, by omega⟩ (fun c31 => ?_) (fun c31 => absurd c31 (by omega))
    refine wp_iload_n dX7_set_36 rfl ?_
    refine wp_if_ne 44 dX7_set_37 rfl ⟨by omega, by omega⟩ (fun c37 => ?_) (fun c37 => absurd c37 (by omega))
    refine wp_iload_n dX7_set_44 rfl ?_
    refine wp_iconst dX7_set_45 ?_
    refine wp_icmp_ne 53 dX7_set_46 rfl ⟨by omega, by omega⟩ ⟨by omega, by omega⟩ (fun c46 => ?_) (fun c46 => absurd c46 (by omega))
    refine wp_iload_n dX7_set_53 rfl ?_
    refine wp_iconst dX7_set_54 ?_
    refine wp_icmp_ne 61 dX7_set_55 rfl ⟨by omega, by omega⟩ ⟨by omega, by omega⟩ (fun c55 => ?_) (fun c55 => absurd c55 (by omega))
    refine wp_iload_n dX7_set_61 rfl ?_
    refine wp_bipush dX7_set_62 rfl ?_
    refine wp_icmp_ne 70 dX7_set_64 rfl ⟨by omega, by omega⟩ ⟨by omega, by omega⟩ (fun c64 => ?_) (fun c64 => absurd c64 (by omega))
    refine wp_iload_n dX7_set_70 rfl ?_
    refine wp_i2l dX7_set_71 (by first | assumption | exact hR _ | exact hR2 _ | exact bI_r _ | (unfold r32; omega)) ?_
    refine wp_iload_n dX7_set_72 rfl ?_
    refine wp_i2l dX7_set_73 ⟨by omega, by omega⟩ ?_
    refine wp_iload dX7_set_74 rfl ?_
    refine wp_i2l dX7_set_76 ⟨by omega, by omega⟩ ?_
    refine wp_is3 dX7_set_77 SX7_in lX7_94 (rq0 rfl rfl) (Nat.le_of_ble_eq_true rfl) (C_in (by first | assumption | (unfold r64 r32 at *; omega)) (by first | assumption | (unfold r64 r32 at *; omega)) (by first | assumption | (unfold r64 r32 at *; omega)) ?_)
    dsimp only [pushR]
    refine wp_bne 85 dX7_set_80 rfl (fun c80 => ?_) (fun c80 => ?_)
    · refine wp_aload_n dX7_set_85 rfl ?_
      refine sa_get hS dX7_set_86 fX7_9 ?_
      refine wp_iconst dX7_set_89 ?_
      refine wp_iload_n dX7_set_90 rfl ?_
      refine wp_iadd dX7_set_91 ?_
      refine sa_ld (v := g (3 + 2)) hS dX7_set_92 (by decide) (by first | omega | (unfold eA; omega) | (unfold oA; omega) | (unfold lA; omega) | (unfold dA; omega) | (unfold hA; omega)) rfl ?_
      refine wp_istore (L' := [some (vR 51), some (vI 2), some (vI v), some (vI 0), some (vI 20), some (vI (g (3 + 2)))]) dX7_set_93 (by decide) rfl ?_
      refine wp_aload_n dX7_set_95 rfl ?_
      refine sa_get hS dX7_set_96 fX7_9 ?_
      refine wp_iconst dX7_set_99 ?_
      refine wp_iload_n dX7_set_100 rfl ?_
      refine wp_iadd dX7_set_101 ?_
      refine wp_iload_n dX7_set_102 rfl ?_
      refine sa_st hS dX7_set_103 (by decide) (by first | omega | (unfold eA; omega) | (unfold oA; omega) | (unfold lA; omega) | (unfold dA; omega) | (unfold hA; omega)) ?_
      refine wp_aload_n dX7_set_104 rfl ?_
      refine wp_iload dX7_set_105 rfl ?_
      have e : rSet2 g v = _ := if_pos c80
      rw [e] at hv hQ
      refine wp_iv1 dX7_set_107 VX7_told lX7_164 (MV.row hM).1.choose_spec.choose_spec.choose_spec.choose_spec.choose_spec.choose_spec.choose_spec.choose_spec (rq0 rfl rfl) (Nat.le_of_ble_eq_true rfl) (N_told (MV.row hM) hv hd (fun h' Kp' dn' km' k1 k2 k3 => ?_))
      dsimp only [pushR]
      exact wp_iret dX7_set_110 rfl (hQ h' Kp' dn' km' k1 ((FRm.st (by decide)).tr k2) k3)
    · refine wp_iconst dX7_set_83 ?_
      exact wp_iret dX7_set_84 rfl (by have e : rSet2 g v = _ := if_neg c80; rw [e] at hv hQ; rw [set_same h2]; exact hQ _ _ _ _ hM FRm.rf (Or.inl ⟨by unfold dNo; omega, rfl, rfl, rfl⟩))
  · omega
def rSet3 (g : Int → Int) (v : Int) : Int × (Int → Int) := if 1 ≤ v ∧ v ≤ 20 then (g (3 + 3), (ud g (3 + 3) v)) else ((-1), g)
set_option maxHeartbeats 2000000 in
theorem F_rset3 {v : Int} (hM : MV h g Kp dn km T ln P PS R Z I ik) (hI : IM B g) (hBB : B ≤ 8000000) (hd : 0 ≤ dn ∧ dn ≤ 30) (rv : r32 v)  (hv : r32 (rSet3 g v).1) (hQ : ∀ h' Kp' dn' km', MV h' (rSet3 g v).2 Kp' dn' km' T ln P PS R Z I ik → FRm h h' → TO (rSet3 g v).1 (rSet3 g v).2 Kp dn km Kp' dn' km' → Q (some (vI (rSet3 g v).1)) h') : Cl X kX7_set [vR 51, vI 3, vI v] h Q := by
  have hS := hM.sa
  have h2 := m52 hM
  have hR := hI.r (by omega)
  have hB0 : 0 ≤ B := by have := hI.b 0; have := hI.n0 (j := 0) (by omega); omega
  refine sa_of h2 ?_
  refine cl_of rfl (Nat.le_of_ble_eq_true rfl) rfl ?_
  refine wp_iload_n dX7_set_0 rfl ?_
  refine wp_i2l dX7_set_1 ⟨by omega, by omega⟩ ?_
  refine wp_lconst (z := 0) dX7_set_2 rfl ?_
  refine wp_ldc2 dX7_set_3 cX7_193 ?_
  refine wp_is3 dX7_set_6 SX7_in lX7_94 (rq0 rfl rfl) (Nat.le_of_ble_eq_true rfl) (C_in (by first | assumption | (unfold r64 r32 at *; omega)) (by first | assumption | (unfold r64 r32 at *; omega)) (by first | assumption | (unfold r64 r32 at *; omega)) ?_)
  dsimp only [pushR]
  refine wp_bne 14 dX7_set_9 rfl (fun c9 => ?_) (fun c9 => ?_)
  · refine wp_iconst dX7_set_14 ?_
    refine wp_istore_n (L' := [some (vR 51), some (vI 3), some (vI v), some (vI 0), none, none]) dX7_set_15 (by decide) rfl ?_
    refine wp_bipush dX7_set_16 rfl ?_
    refine wp_istore (L' := [some (vR 51), some (vI 3), some (vI v), some (vI 0), some (vI 20), none]) dX7_set_18 (by decide) rfl ?_
    refine wp_iload_n dX7_set_20 rfl ?_
    refine wp_if_eq 34 dX7_set_21 rfl ⟨by omega, by omega⟩ (fun c21 => absurd c21 (by omega)) (fun c21 => ?_)
    refine wp_iload_n dX7_set_24 rfl ?_
    refine wp_iconst dX7_set_25 ?_
    refine wp_icmp_eq 34 dX7_set_26 rfl ⟨by omega, by omega⟩ ⟨by omega, by omega⟩ (fun c26 => absurd c26 (by omega)) (fun c26 => ?_)
    refine wp_iload_n dX7_set_29 rfl ?_
    refine wp_iconst dX7_set_30 ?_
    refine wp_icmp_ne 36 dX7_set_31 rfl ⟨by omega, by omega⟩ ⟨by omega, by omega⟩ (fun c31 => absurd c31 (by omega)) (fun c31 => ?_)
    refine wp_iconst dX7_set_34 ?_
    refine wp_istore_n (L' := [some (vR 51), some (vI 3), some (vI v), some (vI 1), some (vI 20), none]) dX7_set_35 (by decide) rfl ?_
    refine wp_iload_n dX7_set_36 rfl ?_
    refine wp_if_ne 44 dX7_set_37 rfl ⟨by omega, by omega⟩ (fun c37 => ?_) (fun c37 => absurd c37 (by omega))
    refine wp_iload_n dX7_set_44 rfl ?_
    refine wp_iconst dX7_set_45 ?_
    refine wp_icmp_ne 53 dX7_set_46 rfl ⟨by omega, by omega⟩ ⟨by omega, by omega⟩ (fun c46 => ?_) (fun c46 => absurd c46 (by omega))
    refine wp_iload_n dX7_set_53 rfl ?_
    refine wp_iconst dX7_set_54 ?_
    refine wp_icmp_ne 61 dX7_set_55 rfl ⟨by omega, by omega⟩ ⟨by omega, by omega⟩ (fun c55 => ?_) (fun c55 => absurd c55 (by omega))
    refine wp_iload_n dX7_set_61 rfl ?_
    refine wp_bipush dX7_set_62 rfl ?_
    refine wp_icmp_ne 70 dX7_set_64 rfl ⟨by omega, by omega⟩ ⟨by omega, by omega⟩ (fun c64 => ?_) (fun c64 => absurd c64 (by omega))
    refine wp_iload_n dX7_set_70 rfl ?_
    refine wp_i2l dX7_set_71 (by first | assumption | exact hR _ | exact hR2 _ | exact bI_r _ | (unfold r32; omega)) ?_
    refine wp_iload_n dX7_set_72 rfl ?_
    refine wp_i2l dX7_set_73 ⟨by omega, by omega⟩ ?_
    refine wp_iload dX7_set_74 rfl ?_
    refine wp_i2l dX7_set_76 ⟨by omega, by omega⟩ ?_
    refine wp_is3 dX7_set_77 SX7_in lX7_94 (rq0 rfl rfl) (Nat.le_of_ble_eq_true rfl) (C_in (by first | assumption | (unfold r64 r32 at *; omega)) (by first | assumption | (unfold r64 r32 at *; omega)) (by first | assumption | (unfold r64 r32 at *; omega)) ?_)
    dsimp only [pushR]
    refine wp_bne 85 dX7_set_80 rfl (fun c80 => ?_) (fun c80 => ?_)
    · refine wp_aload_n dX7_set_85 rfl ?_
      refine sa_get hS dX7_set_86 fX7_9 ?_
      refine wp_iconst dX7_set_89 ?_
      refine wp_iload_n dX7_set_90 rfl ?_
      refine wp_iadd dX7_set_91 ?_
      refine sa_ld (v := g (3 + 3)) hS dX7_set_92 (by decide) (by first | omega | (unfold eA; omega) | (unfold oA; omega) | (unfold lA; omega) | (unfold dA; omega) | (unfold hA; omega)) rfl ?_
      refine wp_istore (L' := [some (vR 51), some (vI 3), some (vI v), some (vI 1), some (vI 20), some (vI (g (3 + 3)))]) dX7_set_93 (by decide) rfl ?_
      refine wp_aload_n dX7_set_95 rfl ?_
      refine sa_get hS dX7_set_96 fX7_9 ?_
      refine wp_iconst dX7_set_99 ?_
      refine wp_iload_n dX7_set_100 rfl ?_
      refine wp_iadd dX7_set_101 ?_
      refine wp_iload_n dX7_set_102 rfl ?_
      refine sa_st hS dX7_set_103 (by decide) (by first | omega | (unfold eA; omega) | (unfold oA; omega) | (unfold lA; omega) | (unfold dA; omega) | (unfold hA; omega)) ?_
      refine wp_aload_n dX7_set_104 rfl ?_
      refine wp_iload dX7_set_105 rfl ?_
      have e : rSet3 g v = _ := if_pos c80
      rw [e] at hv hQ
      refine wp_iv1 dX7_set_107 VX7_told lX7_164 (MV.row hM).1.choose_spec.choose_spec.choose_spec.choose_spec.choose_spec.choose_spec.choose_spec.choose_spec (rq0 rfl rfl) (Nat.le_of_ble_eq_true rfl) (N_told (MV.row hM) hv hd (fun h' Kp' dn' km' k1 k2 k3 => ?_))
      dsimp only [pushR]
      exact wp_iret dX7_set_110 rfl (hQ h' Kp' dn' km' k1 ((FRm.st (by decide)).tr k2) k3)
    · refine wp_iconst dX7_set_83 ?_
      exact wp_iret dX7_set_84 rfl (by have e : rSet3 g v = _ := if_neg c80; rw [e] at hv hQ; rw [set_same h2]; exact hQ _ _ _ _ hM FRm.rf (Or.inl ⟨by unfold dNo; omega, rfl, rfl, rfl⟩))
  · omega
def rSet4 (g : Int → Int) (v : Int) : Int × (Int → Int) := if 0 ≤ v ∧ v ≤ 20 then (g (3 + 4), (ud g (3 + 4) v)) else ((-1), g)
set_option maxHeartbeats 2000000 in
theorem F_rset4 {v : Int} (hM : MV h g Kp dn km T ln P PS R Z I ik) (hI : IM B g) (hBB : B ≤ 8000000) (hd : 0 ≤ dn ∧ dn ≤ 30) (rv : r32 v)  (hv : r32 (rSet4 g v).1) (hQ : ∀ h' Kp' dn' km', MV h' (rSet4 g v).2 Kp' dn' km' T ln P PS R Z I ik → FRm h h' → TO (rSet4 g v).1 (rSet4 g v).2 Kp dn km Kp' dn' km' → Q (some (vI (rSet4 g v).1)) h') : Cl X kX7_set [vR 51, vI 4, vI v] h Q := by
  have hS := hM.sa
  have h2 := m52 hM
  have hR := hI.r (by omega)
  have hB0 : 0 ≤ B := by have := hI.b 0; have := hI.n0 (j := 0) (by omega); omega
  refine sa_of h2 ?_
  refine cl_of rfl (Nat.le_of_ble_eq_true rfl) rfl ?_
  refine wp_iload_n dX7_set_0 rfl ?_
  refine wp_i2l dX7_set_1 ⟨by omega, by omega⟩ ?_
  refine wp_lconst (z := 0) dX7_set_2 rfl ?_
  refine wp_ldc2 dX7_set_3 cX7_193 ?_
  refine wp_is3 dX7_set_6 SX7_in lX7_94 (rq0 rfl rfl) (Nat.le_of_ble_eq_true rfl) (C_in (by first | assumption | (unfold r64 r32 at *; omega)) (by first | assumption | (unfold r64 r32 at *; omega)) (by first | assumption | (unfold r64 r32 at *; omega)) ?_)
  dsimp only [pushR]
  refine wp_bne 14 dX7_set_9 rfl (fun c9 => ?_) (fun c9 => ?_)
  · refine wp_iconst dX7_set_14 ?_
    refine wp_istore_n (L' := [some (vR 51), some (vI 4), some (vI v), some (vI 0), none, none]) dX7_set_15 (by decide) rfl ?_
    refine wp_bipush dX7_set_16 rfl ?_
    refine wp_istore (L' := [some (vR 51), some (vI 4), some (vI v), some (vI 0), some (vI 20), none]) dX7_set_18 (by decide) rfl ?_
    refine wp_iload_n dX7_set_20 rfl ?_
    refine wp_if_eq 34 dX7_set_21 rfl ⟨by omega, by omega⟩ (fun c21 => absurd c21 (by omega)) (fun c21 => ?_)
    refine wp_iload_n dX7_set_24 rfl ?_
    refine wp_iconst dX7_set_25 ?_
    refine wp_icmp_eq 34 dX7_set_26 rfl ⟨by omega, by omega⟩ ⟨by omega, by omega⟩ (fun c26 => absurd c26 (by omega)) (fun c26 => ?_)
    refine wp_iload_n dX7_set_29 rfl ?_
    refine wp_iconst dX7_set_30 ?_
    refine wp_icmp_ne 36 dX7_set_31 rfl ⟨by omega, by omega⟩ ⟨by omega, by omega⟩ (fun c31 => ?_) (fun c31 => absurd c31 (by omega))
    refine wp_iload_n dX7_set_36 rfl ?_
    refine wp_if_ne 44 dX7_set_37 rfl ⟨by omega, by omega⟩ (fun c37 => ?_) (fun c37 => absurd c37 (by omega))
    refine wp_iload_n dX7_set_44 rfl ?_
    refine wp_iconst dX7_set_45 ?_
    refine wp_icmp_ne 53 dX7_set_46 rfl ⟨by omega, by omega⟩ ⟨by omega, by omega⟩ (fun c46 => ?_) (fun c46 => absurd c46 (by omega))
    refine wp_iload_n dX7_set_53 rfl ?_
    refine wp_iconst dX7_set_54 ?_
    refine wp_icmp_ne 61 dX7_set_55 rfl ⟨by omega, by omega⟩ ⟨by omega, by omega⟩ (fun c55 => ?_) (fun c55 => absurd c55 (by omega))
    refine wp_iload_n dX7_set_61 rfl ?_
    refine wp_bipush dX7_set_62 rfl ?_
    refine wp_icmp_ne 70 dX7_set_64 rfl ⟨by omega, by omega⟩ ⟨by omega, by omega⟩ (fun c64 => ?_) (fun c64 => absurd c64 (by omega))
    refine wp_iload_n dX7_set_70 rfl ?_
    refine wp_i2l dX7_set_71 (by first | assumption | exact hR _ | exact hR2 _ | exact bI_r _ | (unfold r32; omega)) ?_
    refine wp_iload_n dX7_set_72 rfl ?_
    refine wp_i2l dX7_set_73 ⟨by omega, by omega⟩ ?_
    refine wp_iload dX7_set_74 rfl ?_
    refine wp_i2l dX7_set_76 ⟨by omega, by omega⟩ ?_
    refine wp_is3 dX7_set_77 SX7_in lX7_94 (rq0 rfl rfl) (Nat.le_of_ble_eq_true rfl) (C_in (by first | assumption | (unfold r64 r32 at *; omega)) (by first | assumption | (unfold r64 r32 at *; omega)) (by first | assumption | (unfold r64 r32 at *; omega)) ?_)
    dsimp only [pushR]
    refine wp_bne 85 dX7_set_80 rfl (fun c80 => ?_) (fun c80 => ?_)
    · refine wp_aload_n dX7_set_85 rfl ?_
      refine sa_get hS dX7_set_86 fX7_9 ?_
      refine wp_iconst dX7_set_89 ?_
      refine wp_iload_n dX7_set_90 rfl ?_
      refine wp_iadd dX7_set_91 ?_
      refine sa_ld (v := g (3 + 4)) hS dX7_set_92 (by decide) (by first | omega | (unfold eA; omega) | (unfold oA; omega) | (unfold lA; omega) | (unfold dA; omega) | (unfold hA; omega)) rfl ?_
      refine wp_istore (L' := [some (vR 51), some (vI 4), some (vI v), some (vI 0), some (vI 20), some (vI (g (3 + 4)))]) dX7_set_93 (by decide) rfl ?_
      refine wp_aload_n dX7_set_95 rfl ?_
      refine sa_get hS dX7_set_96 fX7_9 ?_
      refine wp_iconst dX7_set_99 ?_
      refine wp_iload_n dX7_set_100 rfl ?_
      refine wp_iadd dX7_set_101 ?_
      refine wp_iload_n dX7_set_102 rfl ?_
      refine sa_st hS dX7_set_103 (by decide) (by first | omega | (unfold eA; omega) | (unfold oA; omega) | (unfold lA; omega) | (unfold dA; omega) | (unfold hA; omega)) ?_
      refine wp_aload_n dX7_set_104 rfl ?_
      refine wp_iload dX7_set_105 rfl ?_
      have e : rSet4 g v = _ := if_pos c80
      rw [e] at hv hQ
      refine wp_iv1 dX7_set_107 VX7_told lX7_164 (MV.row hM).1.choose_spec.choose_spec.choose_spec.choose_spec.choose_spec.choose_spec.choose_spec.choose_spec (rq0 rfl rfl) (Nat.le_of_ble_eq_true rfl) (N_told (MV.row hM) hv hd (fun h' Kp' dn' km' k1 k2 k3 => ?_))
      dsimp only [pushR]
      exact wp_iret dX7_set_110 rfl (hQ h' Kp' dn' km' k1 ((FRm.st (by decide)).tr k2) k3)
    · refine wp_iconst dX7_set_83 ?_
      exact wp_iret dX7_set_84 rfl (by have e : rSet4 g v = _ := if_neg c80; rw [e] at hv hQ; rw [set_same h2]; exact hQ _ _ _ _ hM FRm.rf (Or.inl ⟨by unfold dNo; omega, rfl, rfl, rfl⟩))
  · omega
def rSet5 (g : Int → Int) (v : Int) : Int × (Int → Int) := if 0 ≤ v ∧ v ≤ 3 then (g (3 + 5), (ud g (3 + 5) v)) else ((-1), g)
set_option maxHeartbeats 2000000 in
theorem F_rset5 {v : Int} (hM : MV h g Kp dn km T ln P PS R Z I ik) (hI : IM B g) (hBB : B ≤ 8000000) (hd : 0 ≤ dn ∧ dn ≤ 30) (rv : r32 v)  (hv : r32 (rSet5 g v).1) (hQ : ∀ h' Kp' dn' km', MV h' (rSet5 g v).2 Kp' dn' km' T ln P PS R Z I ik → FRm h h' → TO (rSet5 g v).1 (rSet5 g v).2 Kp dn km Kp' dn' km' → Q (some (vI (rSet5 g v).1)) h') : Cl X kX7_set [vR 51, vI 5, vI v] h Q := by
  have hS := hM.sa
  have h2 := m52 hM
  have hR := hI.r (by omega)
  have hB0 : 0 ≤ B := by have := hI.b 0; have := hI.n0 (j := 0) (by omega); omega
  refine sa_of h2 ?_
  refine cl_of rfl (Nat.le_of_ble_eq_true rfl) rfl ?_
  refine wp_iload_n dX7_set_0 rfl ?_
  refine wp_i2l dX7_set_1 ⟨by omega, by omega⟩ ?_
  refine wp_lconst (z := 0) dX7_set_2 rfl ?_
  refine wp_ldc2 dX7_set_3 cX7_193 ?_
  refine wp_is3 dX7_set_6 SX7_in lX7_94 (rq0 rfl rfl) (Nat.le_of_ble_eq_true rfl) (C_in (by first | assumption | (unfold r64 r32 at *; omega)) (by first | assumption | (unfold r64 r32 at *; omega)) (by first | assumption | (unfold r64 r32 at *; omega)) ?_)
  dsimp only [pushR]
  refine wp_bne 14 dX7_set_9 rfl (fun c9 => ?_) (fun c9 => ?_)
  · refine wp_iconst dX7_set_14 ?_
    refine wp_istore_n (L' := [some (vR 51), some (vI 5), some (vI v), some (vI 0), none, none]) dX7_set_15 (by decide) rfl ?_
    refine wp_bipush dX7_set_16 rfl ?_
    refine wp_istore (L' := [some (vR 51), some (vI 5), some (vI v), some (vI 0), some (vI 20), none]) dX7_set_18 (by decide) rfl ?_
    refine wp_iload_n dX7_set_20 rfl ?_
    refine wp_if_eq 34 dX7_set_21 rfl ⟨by omega, by omega⟩ (fun c21 => absurd c21 (by omega)) (fun c21 => ?_)
    refine wp_iload_n dX7_set_24 rfl ?_
    refine wp_iconst dX7_set_25 ?_
    refine wp_icmp_eq 34 dX7_set_26 rfl ⟨by omega, by omega⟩ ⟨by omega, by omega⟩ (fun c26 => absurd c26 (by omega)) (fun c26 => ?_)
    refine wp_iload_n dX7_set_29 rfl ?_
    refine wp_iconst dX7_set_30 ?_
    refine wp_icmp_ne 36 dX7_set_31 rfl ⟨by omega, by omega⟩ ⟨by omega, by omega⟩ (fun c31 => ?_) (fun c31 => absurd c31 (by omega))
    refine wp_iload_n dX7_set_36 rfl ?_
    refine wp_if_ne 44 dX7_set_37 rfl ⟨by omega, by omega⟩ (fun c37 => ?_) (fun c37 => absurd c37 (by omega))
    refine wp_iload_n dX7_set_44 rfl ?_
    refine wp_iconst dX7_set_45 ?_
    refine wp_icmp_ne 53 dX7_set_46 rfl ⟨by omega, by omega⟩ ⟨by omega, by omega⟩ (fun c46 => ?_) (fun c46 => absurd c46 (by omega))
    refine wp_iload_n dX7_set_53 rfl ?_
    refine wp_iconst dX7_set_54 ?_
    refine wp_icmp_ne 61 dX7_set_55 rfl ⟨by omega, by omega⟩ ⟨by omega, by omega⟩ (fun c55 => absurd c55 (by omega)) (fun c55 => ?_)
    refine wp_iconst dX7_set_58 ?_
    refine wp_istore (L' := [some (vR 51), some (vI 5), some (vI v), some (vI 0), some (vI 3), none]) dX7_set_59 (by decide) rfl ?_
    refine wp_iload_n dX7_set_61 rfl ?_
    refine wp_bipush dX7_set_62 rfl ?_
    refine wp_icmp_ne 70 dX7_set_64 rfl ⟨by omega, by omega⟩ ⟨by omega, by omega⟩ (fun c64 => ?_) (fun c64 => absurd c64 (by omega))
    refine wp_iload_n dX7_set_70 rfl ?_
    refine wp_i2l dX7_set_71 (by first | assumption | exact hR _ | exact hR2 _ | exact bI_r _ | (unfold r32; omega)) ?_
    refine wp_iload_n dX7_set_72 rfl ?_
    refine wp_i2l dX7_set_73 ⟨by omega, by omega⟩ ?_
    refine wp_iload dX7_set_74 rfl ?_
    refine wp_i2l dX7_set_76 ⟨by omega, by omega⟩ ?_
    refine wp_is3 dX7_set_77 SX7_in lX7_94 (rq0 rfl rfl) (Nat.le_of_ble_eq_true rfl) (C_in (by first | assumption | (unfold r64 r32 at *; omega)) (by first | assumption | (unfold r64 r32 at *; omega)) (by first | assumption | (unfold r64 r32 at *; omega)) ?_)
    dsimp only [pushR]
    refine wp_bne 85 dX7_set_80 rfl (fun c80 => ?_) (fun c80 => ?_)
    · refine wp_aload_n dX7_set_85 rfl ?_
      refine sa_get hS dX7_set_86 fX7_9 ?_
      refine wp_iconst dX7_set_89 ?_
      refine wp_iload_n dX7_set_90 rfl ?_
      refine wp_iadd dX7_set_91 ?_
      refine sa_ld (v := g (3 + 5)) hS dX7_set_92 (by decide) (by first | omega | (unfold eA; omega) | (unfold oA; omega) | (unfold lA; omega) | (unfold dA; omega) | (unfold hA; omega)) rfl ?_
      refine wp_istore (L' := [some (vR 51), some (vI 5), some (vI v), some (vI 0), some (vI 3), some (vI (g (3 + 5)))]) dX7_set_93 (by decide) rfl ?_
      refine wp_aload_n dX7_set_95 rfl ?_
      refine sa_get hS dX7_set_96 fX7_9 ?_
      refine wp_iconst dX7_set_99 ?_
      refine wp_iload_n dX7_set_100 rfl ?_
      refine wp_iadd dX7_set_101 ?_
      refine wp_iload_n dX7_set_102 rfl ?_
      refine sa_st hS dX7_set_103 (by decide) (by first | omega | (unfold eA; omega) | (unfold oA; omega) | (unfold lA; omega) | (unfold dA; omega) | (unfold hA; omega)) ?_
      refine wp_aload_n dX7_set_104 rfl ?_
      refine wp_iload dX7_set_105 rfl ?_
      have e : rSet5 g v = _ := if_pos c80
      rw [e] at hv hQ
      refine wp_iv1 dX7_set_107 VX7_told lX7_164 (MV.row hM).1.choose_spec.choose_spec.choose_spec.choose_spec.choose_spec.choose_spec.choose_spec.choose_spec (rq0 rfl rfl) (Nat.le_of_ble_eq_true rfl) (N_told (MV.row hM) hv hd (fun h' Kp' dn' km' k1 k2 k3 => ?_))
      dsimp only [pushR]
      exact wp_iret dX7_set_110 rfl (hQ h' Kp' dn' km' k1 ((FRm.st (by decide)).tr k2) k3)
    · refine wp_iconst dX7_set_83 ?_
      exact wp_iret dX7_set_84 rfl (by have e : rSet5 g v = _ := if_neg c80; rw [e] at hv hQ; rw [set_same h2]; exact hQ _ _ _ _ hM FRm.rf (Or.inl ⟨by unfold dNo; omega, rfl, rfl, rfl⟩))
  · omega
def rSet6 (g : Int → Int) (v : Int) : Int × (Int → Int) := if 0 ≤ v ∧ v ≤ 1 then (g (3 + 6), (ud g (3 + 6) v)) else ((-1), g)
set_option maxHeartbeats 2000000 in
theorem F_rset6 {v : Int} (hM : MV h g Kp dn km T ln P PS R Z I ik) (hI : IM B g) (hBB : B ≤ 8000000) (hd : 0 ≤ dn ∧ dn ≤ 30) (rv : r32 v)  (hv : r32 (rSet6 g v).1) (hQ : ∀ h' Kp' dn' km', MV h' (rSet6 g v).2 Kp' dn' km' T ln P PS R Z I ik → FRm h h' → TO (rSet6 g v).1 (rSet6 g v).2 Kp dn km Kp' dn' km' → Q (some (vI (rSet6 g v).1)) h') : Cl X kX7_set [vR 51, vI 6, vI v] h Q := by
  have hS := hM.sa
  have h2 := m52 hM
  have hR := hI.r (by omega)
  have hB0 : 0 ≤ B := by have := hI.b 0; have := hI.n0 (j := 0) (by omega); omega
  refine sa_of h2 ?_
  refine cl_of rfl (Nat.le_of_ble_eq_true rfl) rfl ?_
  refine wp_iload_n dX7_set_0 rfl ?_
  refine wp_i2l dX7_set_1 ⟨by omega, by omega⟩ ?_
  refine wp_lconst (z := 0) dX7_set_2 rfl ?_
  refine wp_ldc2 dX7_set_3 cX7_193 ?_
  refine wp_is3 dX7_set_6 SX7_in lX7_94 (rq0 rfl rfl) (Nat.le_of_ble_eq_true rfl) (C_in (by first | assumption | (unfold r64 r32 at *; omega)) (by first | assumption | (unfold r64 r32 at *; omega)) (by first | assumption | (unfold r64 r32 at *; omega)) ?_)
  dsimp only [pushR]
  refine wp_bne 14 dX7_set_9 rfl (fun c9 => ?_) (fun c9 => ?_)
  · refine wp_iconst dX7_set_14 ?_
    refine wp_istore_n (L' := [some (vR 51), some (vI 6), some (vI v), some (vI 0), none, none]) dX7_set_15 (by decide) rfl ?_
    refine wp_bipush dX7_set_16 rfl ?_
    refine wp_istore (L' := [some (vR 51), some (vI 6), some (vI v), some (vI 0), some (vI 20), none]) dX7_set_18 (by decide) rfl ?_
    refine wp_iload_n dX7_set_20 rfl ?_
    refine wp_if_eq 34 dX7_set_21 rfl ⟨by omega, by omega⟩ (fun c21 => absurd c21 (by omega)) (fun c21 => ?_)
    refine wp_iload_n dX7_set_24 rfl ?_
    refine wp_iconst dX7_set_25 ?_
    refine wp_icmp_eq 34 dX7_set_26 rfl ⟨by omega, by omega⟩ ⟨by omega, by omega⟩ (fun c26 => absurd c26 (by omega)) (fun c26 => ?_)
    refine wp_iload_n dX7_set_29 rfl ?_
    refine wp_iconst dX7_set_30 ?_
    refine wp_icmp_ne 36 dX7_set_31 rfl ⟨by omega, by omega⟩ ⟨by omega, by omega⟩ (fun c31 => ?_) (fun c31 => absurd c31 (by omega))
    refine wp_iload_n dX7_set_36 rfl ?_
    refine wp_if_ne 44 dX7_set_37 rfl ⟨by omega, by omega⟩ (fun c37 => ?_) (fun c37 => absurd c37 (by omega))
    refine wp_iload_n dX7_set_44 rfl ?_
    refine wp_iconst dX7_set_45 ?_
    refine wp_icmp_ne 53 dX7_set_46 rfl ⟨by omega, by omega⟩ ⟨by omega, by omega⟩ (fun c46 => ?_) (fun c46 => absurd c46 (by omega))
    refine wp_iload_n dX7_set_53 rfl ?_
    refine wp_iconst dX7_set_54 ?_
    refine wp_icmp_ne 61 dX7_set_55 rfl ⟨by omega, by omega⟩ ⟨by omega, by omega⟩ (fun c55 => ?_) (fun c55 => absurd c55 (by omega))
    refine wp_iload_n dX7_set_61 rfl ?_
    refine wp_bipush dX7_set_62 rfl ?_
    refine wp_icmp_ne 70 dX7_set_64 rfl ⟨by omega, by omega⟩ ⟨by omega, by omega⟩ (fun c64 => absurd c64 (by omega)) (fun c64 => ?_)
    refine wp_iconst dX7_set_67 ?_
    refine wp_istore (L' := [some (vR 51), some (vI 6), some (vI v), some (vI 0), some (vI 1), none]) dX7_set_68 (by decide) rfl ?_
    refine wp_iload_n dX7_set_70 rfl ?_
    refine wp_i2l dX7_set_71 (by first | assumption | exact hR _ | exact hR2 _ | exact bI_r _ | (unfold r32; omega)) ?_
    refine wp_iload_n dX7_set_72 rfl ?_
    refine wp_i2l dX7_set_73 ⟨by omega, by omega⟩ ?_
    refine wp_iload dX7_set_74 rfl ?_
    refine wp_i2l dX7_set_76 ⟨by omega, by omega⟩ ?_
    refine wp_is3 dX7_set_77 SX7_in lX7_94 (rq0 rfl rfl) (Nat.le_of_ble_eq_true rfl) (C_in (by first | assumption | (unfold r64 r32 at *; omega)) (by first | assumption | (unfold r64 r32 at *; omega)) (by first | assumption | (unfold r64 r32 at *; omega)) ?_)
    dsimp only [pushR]
    refine wp_bne 85 dX7_set_80 rfl (fun c80 => ?_) (fun c80 => ?_)
    · refine wp_aload_n dX7_set_85 rfl ?_
      refine sa_get hS dX7_set_86 fX7_9 ?_
      refine wp_iconst dX7_set_89 ?_
      refine wp_iload_n dX7_set_90 rfl ?_
      refine wp_iadd dX7_set_91 ?_
      refine sa_ld (v := g (3 + 6)) hS dX7_set_92 (by decide) (by first | omega | (unfold eA; omega) | (unfold oA; omega) | (unfold lA; omega) | (unfold dA; omega) | (unfold hA; omega)) rfl ?_
      refine wp_istore (L' := [some (vR 51), some (vI 6), some (vI v), some (vI 0), some (vI 1), some (vI (g (3 + 6)))]) dX7_set_93 (by decide) rfl ?_
      refine wp_aload_n dX7_set_95 rfl ?_
      refine sa_get hS dX7_set_96 fX7_9 ?_
      refine wp_iconst dX7_set_99 ?_
      refine wp_iload_n dX7_set_100 rfl ?_
      refine wp_iadd dX7_set_101 ?_
      refine wp_iload_n dX7_set_102 rfl ?_
      refine sa_st hS dX7_set_103 (by decide) (by first | omega | (unfold eA; omega) | (unfold oA; omega) | (unfold lA; omega) | (unfold dA; omega) | (unfold hA; omega)) ?_
      refine wp_aload_n dX7_set_104 rfl ?_
      refine wp_iload dX7_set_105 rfl ?_
      have e : rSet6 g v = _ := if_pos c80
      rw [e] at hv hQ
      refine wp_iv1 dX7_set_107 VX7_told lX7_164 (MV.row hM).1.choose_spec.choose_spec.choose_spec.choose_spec.choose_spec.choose_spec.choose_spec.choose_spec (rq0 rfl rfl) (Nat.le_of_ble_eq_true rfl) (N_told (MV.row hM) hv hd (fun h' Kp' dn' km' k1 k2 k3 => ?_))
      dsimp only [pushR]
      exact wp_iret dX7_set_110 rfl (hQ h' Kp' dn' km' k1 ((FRm.st (by decide)).tr k2) k3)
    · refine wp_iconst dX7_set_83 ?_
      exact wp_iret dX7_set_84 rfl (by have e : rSet6 g v = _ := if_neg c80; rw [e] at hv hQ; rw [set_same h2]; exact hQ _ _ _ _ hM FRm.rf (Or.inl ⟨by unfold dNo; omega, rfl, rfl, rfl⟩))
  · omega
def rSet (g : Int → Int) (i v : Int) : Int × (Int → Int) := if i = 0 then rSet0 g v else if i = 1 then rSet1 g v else if i = 2 then rSet2 g v else if i = 3 then rSet3 g v else if i = 4 then rSet4 g v else if i = 5 then rSet5 g v else if i = 6 then rSet6 g v else (-1, g)
theorem F_rset {i v : Int} (hM : MV h g Kp dn km T ln P PS R Z I ik) (hI : IM B g) (hBB : B ≤ 8000000) (hd : 0 ≤ dn ∧ dn ≤ 30) (ri : r32 i) (rv : r32 v) (hv : r32 (rSet g i v).1) (hQ : ∀ h' Kp' dn' km', MV h' (rSet g i v).2 Kp' dn' km' T ln P PS R Z I ik → FRm h h' → TO (rSet g i v).1 (rSet g i v).2 Kp dn km Kp' dn' km' → Q (some (vI (rSet g i v).1)) h') : Cl X kX7_set [vR 51, vI i, vI v] h Q := by
  rcases Decidable.em (0 ≤ i ∧ i ≤ 6) with c | c
  · rcases (by omega : i = 0 ∨ i = 1 ∨ i = 2 ∨ i = 3 ∨ i = 4 ∨ i = 5 ∨ i = 6) with rfl | rfl | rfl | rfl | rfl | rfl | rfl
    · exact F_rset0 hM hI hBB hd rv hv hQ
    · exact F_rset1 hM hI hBB hd rv hv hQ
    · exact F_rset2 hM hI hBB hd rv hv hQ
    · exact F_rset3 hM hI hBB hd rv hv hQ
    · exact F_rset4 hM hI hBB hd rv hv hQ
    · exact F_rset5 hM hI hBB hd rv hv hQ
    · exact F_rset6 hM hI hBB hd rv hv hQ
  · have e : rSet g i v = (-1, g) := by
      unfold rSet
      rw [if_neg (by omega), if_neg (by omega), if_neg (by omega), if_neg (by omega), if_neg (by omega), if_neg (by omega), if_neg (by omega)]
    rw [e] at hQ
    refine cl_of rfl (Nat.le_of_ble_eq_true rfl) rfl ?_
    refine wp_iload_n dX7_set_0 rfl ?_
    refine wp_i2l dX7_set_1 ri ?_
    refine wp_lconst (z := 0) dX7_set_2 rfl ?_
    refine wp_ldc2 dX7_set_3 cX7_193 ?_
    refine wp_is3 dX7_set_6 SX7_in lX7_94 (rq0 rfl rfl) (Nat.le_of_ble_eq_true rfl) (C_in (by unfold r64 r32 at *; omega) (by unfold r64; omega) (by unfold r64; omega) ?_)
    dsimp only [pushR]
    refine wp_bne 14 dX7_set_9 rfl (fun c9 => absurd c9 c) (fun c9 => ?_)
    refine wp_iconst dX7_set_12 ?_
    exact wp_iret dX7_set_13 rfl (hQ _ _ _ _ hM FRm.rf (Or.inl ⟨by unfold dNo; omega, rfl, rfl, rfl⟩))
end RA
