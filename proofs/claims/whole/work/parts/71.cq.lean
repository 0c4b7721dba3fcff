/-! the class' face: what there is -/
/-- the class' object: its fields -/
def cF (sp kp : AV) : List AV := [vR 1, vR 3, vR 5, vR 8, vR 9, vR 14, vR 16, vR 45, vR 50, sp, kp]
section CQ
variable {X : XS} {h : AH} {Q : Option AV → AH → Prop} {p q : Nat} {g : Int → Int} {B : Int} {sp kp : AV}
set_option maxHeartbeats 1000000 in
theorem C_below {n m : Int} (hn : r32 n) (hm : r32 m) (hQ : Q (some (vI (bI (0 ≤ n ∧ n < m)))) h) : Cl X kX6_below [vI n, vI m] h Q := by
  refine cl_of rfl (Nat.le_of_ble_eq_true rfl) rfl ?_
  refine wp_iload_n dX6_below_0 rfl ?_
  refine wp_if_lt 13 dX6_below_1 rfl (by first | assumption | exact hR _ | exact hR2 _ | exact bI_r _ | (unfold r32; omega)) (fun c1 => ?_) (fun c1 => ?_)
  · refine wp_iconst dX6_below_13 ?_
    exact wp_zret dX6_below_14 rfl (Or.inl rfl) (by first | (rw [bI_t (by omega)] at hQ; exact hQ) | (rw [bI_f (by omega)] at hQ; exact hQ))
  · refine wp_iload_n dX6_below_4 rfl ?_
    refine wp_iload_n dX6_below_5 rfl ?_
    refine wp_icmp_ge 13 dX6_below_6 rfl (by first | assumption | exact hR _ | exact hR2 _ | exact bI_r _ | (unfold r32; omega)) (by first | assumption | exact hR _ | exact hR2 _ | exact bI_r _ | (unfold r32; omega)) (fun c6 => ?_) (fun c6 => ?_)
    · refine wp_iconst dX6_below_13 ?_
      exact wp_zret dX6_below_14 rfl (Or.inl rfl) (by first | (rw [bI_t (by omega)] at hQ; exact hQ) | (rw [bI_f (by omega)] at hQ; exact hQ))
    · refine wp_iconst dX6_below_9 ?_
      refine wp_goto 14 dX6_below_10 rfl ?_
      exact wp_zret dX6_below_14 rfl (Or.inr rfl) (by first | (rw [bI_t (by omega)] at hQ; exact hQ) | (rw [bI_f (by omega)] at hQ; exact hQ))
def cSetting (g : Int → Int) (i : Int) : Int := if 0 ≤ i ∧ i < 7 then g (3 + i) else (-1)
set_option maxHeartbeats 2000000 in
theorem C_csetting {i : Int} (hS : SA 5 1 2 h) (hC : h[0]? = some (oO 6 (cF sp kp))) (hI : IW B g) (hBB : B + 1000 ≤ 1000000000) (ri : r32 i)  (hQ : Q (some (vI (cSetting g i))) (h.set 2 (oI 1060 g))) : Cl X kX6_setting [vR 0, vI i] (h.set 2 (oI 1060 g)) Q := by
  refine cl_of rfl (Nat.le_of_ble_eq_true rfl) rfl ?_
  have hR := hI.r (by omega)
  refine wp_iload_n dX6_setting_0 rfl ?_
  refine wp_bipush dX6_setting_1 rfl ?_
  refine wp_is2 dX6_setting_3 SX6_below lX6_81 (rq0 rfl rfl) (Nat.le_of_ble_eq_true rfl) (C_below (by first | assumption | exact hR _ | exact hR2 _ | exact bI_r _ | (unfold r32; omega)) (by first | assumption | exact hR _ | exact hR2 _ | exact bI_r _ | (unfold r32; omega)) ?_)
  dsimp only [pushR]
  refine wp_beq 20 dX6_setting_6 rfl (fun c6 => ?_) (fun c6 => ?_)
  · refine wp_iconst dX6_setting_20 ?_
    exact wp_iret dX6_setting_21 rfl (by have e : cSetting g i = _ := if_neg c6; rw [e] at hQ; exact hQ)
  · refine wp_aload_n dX6_setting_9 rfl ?_
    refine wp_getf dX6_setting_10 fX6_10 (gs_ne (by decide) hC) rfl ?_
    refine wp_iload_n dX6_setting_13 rfl ?_
    refine sa_i1 hS dX6_setting_14 VX5_settingOf lX6_142 (rq0 rfl rfl) (Nat.le_of_ble_eq_true rfl) (C_wsettingOf (v := g (3 + i)) hS (by omega) rfl ?_)
    dsimp only [pushR]
    refine wp_goto 21 dX6_setting_17 rfl ?_
    exact wp_iret dX6_setting_21 rfl (by have e : cSetting g i = _ := if_pos c6; rw [e] at hQ; exact hQ)
def cEntry (g : Int → Int) (a k i : Int) : Int := if 0 ≤ a ∧ a < 6 then if 0 ≤ k ∧ k < 10 then if 0 ≤ i ∧ i < 6 then if g 0 < g (sA a k + 5) then g (sA a k + i) else (-2) else (-1) else (-1) else (-1)
set_option maxHeartbeats 2000000 in
theorem C_centry {a k i : Int} (hS : SA 5 1 2 h) (hC : h[0]? = some (oO 6 (cF sp kp))) (hI : IW B g) (hBB : B + 1000 ≤ 1000000000) (ra : r32 a) (rk : r32 k) (ri : r32 i)  (hQ : Q (some (vI (cEntry g a k i))) (h.set 2 (oI 1060 g))) : Cl X kX6_entry [vR 0, vI a, vI k, vI i] (h.set 2 (oI 1060 g)) Q := by
  refine cl_of rfl (Nat.le_of_ble_eq_true rfl) rfl ?_
  have hR := hI.r (by omega)
  refine wp_iload_n dX6_entry_0 rfl ?_
  refine wp_bipush dX6_entry_1 rfl ?_
  refine wp_is2 dX6_entry_3 SX6_below lX6_81 (rq0 rfl rfl) (Nat.le_of_ble_eq_true rfl) (C_below (by first | assumption | exact hR _ | exact hR2 _ | exact bI_r _ | (unfold r32; omega)) (by first | assumption | exact hR _ | exact hR2 _ | exact bI_r _ | (unfold r32; omega)) ?_)
  dsimp only [pushR]
  refine wp_beq 27 dX6_entry_6 rfl (fun c6 => ?_) (fun c6 => ?_)
  · refine wp_iconst dX6_entry_27 ?_
    exact wp_iret dX6_entry_28 rfl (by have e : cEntry g a k i = _ := if_neg c6; rw [e] at hQ; exact hQ)
  · refine wp_iload_n dX6_entry_9 rfl ?_
    refine wp_bipush dX6_entry_10 rfl ?_
    refine wp_is2 dX6_entry_12 SX6_below lX6_81 (rq0 rfl rfl) (Nat.le_of_ble_eq_true rfl) (C_below (by first | assumption | exact hR _ | exact hR2 _ | exact bI_r _ | (unfold r32; omega)) (by first | assumption | exact hR _ | exact hR2 _ | exact bI_r _ | (unfold r32; omega)) ?_)
    dsimp only [pushR]
    refine wp_beq 27 dX6_entry_15 rfl (fun c15 => ?_) (fun c15 => ?_)
    · refine wp_iconst dX6_entry_27 ?_
      exact wp_iret dX6_entry_28 rfl (by have e : cEntry g a k i = _ := (if_pos c6).trans (if_neg c15); rw [e] at hQ; exact hQ)
    · refine wp_iload_n dX6_entry_18 rfl ?_
      refine wp_bipush dX6_entry_19 rfl ?_
      refine wp_is2 dX6_entry_21 SX6_below lX6_81 (rq0 rfl rfl) (Nat.le_of_ble_eq_true rfl) (C_below (by first | assumption | exact hR _ | exact hR2 _ | exact bI_r _ | (unfold r32; omega)) (by first | assumption | exact hR _ | exact hR2 _ | exact bI_r _ | (unfold r32; omega)) ?_)
      dsimp only [pushR]
      refine wp_bne 29 dX6_entry_24 rfl (fun c24 => ?_) (fun c24 => ?_)
      · refine wp_aload_n dX6_entry_29 rfl ?_
        refine wp_getf dX6_entry_30 fX6_10 (gs_ne (by decide) hC) rfl ?_
        refine wp_iload_n dX6_entry_33 rfl ?_
        refine wp_iload_n dX6_entry_34 rfl ?_
        refine sa_i2 hS dX6_entry_35 VX5_hasEntry lX6_145 (rq0 rfl rfl) (Nat.le_of_ble_eq_true rfl) (C_whasEntry (v0 := g 0) (v1 := g (sA a k + 5)) hS (by omega) (by omega) rfl rfl (by first | assumption | exact hR _ | exact hR2 _ | exact bI_r _ | (unfold r32; omega)) (by first | assumption | exact hR _ | exact hR2 _ | exact bI_r _ | (unfold r32; omega)) ?_)
        dsimp only [pushR]
        refine wp_beq 54 dX6_entry_38 rfl (fun c38 => ?_) (fun c38 => ?_)
        · refine wp_bipush dX6_entry_54 rfl ?_
          exact wp_iret dX6_entry_56 rfl (by have e : cEntry g a k i = _ := (if_pos c6).trans ((if_pos c15).trans ((if_pos c24).trans (if_neg c38))); rw [e] at hQ; exact hQ)
        · refine wp_aload_n dX6_entry_41 rfl ?_
          refine wp_getf dX6_entry_42 fX6_10 (gs_ne (by decide) hC) rfl ?_
          refine wp_iload_n dX6_entry_45 rfl ?_
          refine wp_iload_n dX6_entry_46 rfl ?_
          refine wp_iload_n dX6_entry_47 rfl ?_
          refine sa_i3 hS dX6_entry_48 VX5_entryPart lX6_148 (rq0 rfl rfl) (Nat.le_of_ble_eq_true rfl) (C_wentryPart (v := g (sA a k + i)) hS (by omega) (by omega) (by omega) rfl ?_)
          dsimp only [pushR]
          refine wp_goto 56 dX6_entry_51 rfl ?_
          exact wp_iret dX6_entry_56 rfl (by have e : cEntry g a k i = _ := (if_pos c6).trans ((if_pos c15).trans ((if_pos c24).trans (if_pos c38))); rw [e] at hQ; exact hQ)
      · refine wp_iconst dX6_entry_27 ?_
        exact wp_iret dX6_entry_28 rfl (by have e : cEntry g a k i = _ := (if_pos c6).trans ((if_pos c15).trans (if_neg c24)); rw [e] at hQ; exact hQ)
def cBeside (g : Int → Int) (a k i : Int) : Int := if 0 ≤ a ∧ a < 6 then if 0 ≤ k ∧ k < 10 then if 0 ≤ i ∧ i < 6 then wBp g a k i else (-1) else (-1) else (-1)
set_option maxHeartbeats 2000000 in
theorem C_cbeside {a k i : Int} (hS : SA 5 1 2 h) (hC : h[0]? = some (oO 6 (cF sp kp))) (hI : IW B g) (hBB : B + 1000 ≤ 1000000000) (ra : r32 a) (rk : r32 k) (ri : r32 i)  (hQ : Q (some (vI (cBeside g a k i))) (h.set 2 (oI 1060 g))) : Cl X kX6_beside [vR 0, vI a, vI k, vI i] (h.set 2 (oI 1060 g)) Q := by
  refine cl_of rfl (Nat.le_of_ble_eq_true rfl) rfl ?_
  have hR := hI.r (by omega)
  refine wp_iload_n dX6_beside_0 rfl ?_
  refine wp_bipush dX6_beside_1 rfl ?_
  refine wp_is2 dX6_beside_3 SX6_below lX6_81 (rq0 rfl rfl) (Nat.le_of_ble_eq_true rfl) (C_below (by first | assumption | exact hR _ | exact hR2 _ | exact bI_r _ | (unfold r32; omega)) (by first | assumption | exact hR _ | exact hR2 _ | exact bI_r _ | (unfold r32; omega)) ?_)
  dsimp only [pushR]
  refine wp_beq 27 dX6_beside_6 rfl (fun c6 => ?_) (fun c6 => ?_)
  · refine wp_iconst dX6_beside_27 ?_
    exact wp_iret dX6_beside_28 rfl (by have e : cBeside g a k i = _ := if_neg c6; rw [e] at hQ; exact hQ)
  · refine wp_iload_n dX6_beside_9 rfl ?_
    refine wp_bipush dX6_beside_10 rfl ?_
    refine wp_is2 dX6_beside_12 SX6_below lX6_81 (rq0 rfl rfl) (Nat.le_of_ble_eq_true rfl) (C_below (by first | assumption | exact hR _ | exact hR2 _ | exact bI_r _ | (unfold r32; omega)) (by first | assumption | exact hR _ | exact hR2 _ | exact bI_r _ | (unfold r32; omega)) ?_)
    dsimp only [pushR]
    refine wp_beq 27 dX6_beside_15 rfl (fun c15 => ?_) (fun c15 => ?_)
    · refine wp_iconst dX6_beside_27 ?_
      exact wp_iret dX6_beside_28 rfl (by have e : cBeside g a k i = _ := (if_pos c6).trans (if_neg c15); rw [e] at hQ; exact hQ)
    · refine wp_iload_n dX6_beside_18 rfl ?_
      refine wp_bipush dX6_beside_19 rfl ?_
      refine wp_is2 dX6_beside_21 SX6_below lX6_81 (rq0 rfl rfl) (Nat.le_of_ble_eq_true rfl) (C_below (by first | assumption | exact hR _ | exact hR2 _ | exact bI_r _ | (unfold r32; omega)) (by first | assumption | exact hR _ | exact hR2 _ | exact bI_r _ | (unfold r32; omega)) ?_)
      dsimp only [pushR]
      refine wp_bne 29 dX6_beside_24 rfl (fun c24 => ?_) (fun c24 => ?_)
      · refine wp_aload_n dX6_beside_29 rfl ?_
        refine wp_getf dX6_beside_30 fX6_10 (gs_ne (by decide) hC) rfl ?_
        refine wp_iload_n dX6_beside_33 rfl ?_
        refine wp_iload_n dX6_beside_34 rfl ?_
        refine wp_iload_n dX6_beside_35 rfl ?_
        refine sa_i3 hS dX6_beside_36 VX5_besidePart lX6_151 (rq0 rfl rfl) (Nat.le_of_ble_eq_true rfl) (C_wbesidePart hS hI (by omega) (by omega) (by omega) (by omega) ?_)
        dsimp only [pushR]
        exact wp_iret dX6_beside_39 rfl (by have e : cBeside g a k i = _ := (if_pos c6).trans ((if_pos c15).trans (if_pos c24)); rw [e] at hQ; exact hQ)
      · refine wp_iconst dX6_beside_27 ?_
        exact wp_iret dX6_beside_28 rfl (by have e : cBeside g a k i = _ := (if_pos c6).trans ((if_pos c15).trans (if_neg c24)); rw [e] at hQ; exact hQ)
def cClient (g : Int → Int) (c i : Int) : Int := if 0 ≤ c ∧ c < 6 then if 0 ≤ i ∧ i < 7 then wCp g c i else (-1) else (-1)
set_option maxHeartbeats 2000000 in
theorem C_cclient {c i : Int} (hS : SA 5 1 2 h) (hC : h[0]? = some (oO 6 (cF sp kp))) (hI : IW B g) (hBB : B + 1000 ≤ 1000000000) (rc : r32 c) (ri : r32 i)  (hQ : Q (some (vI (cClient g c i))) (h.set 2 (oI 1060 g))) : Cl X kX6_client [vR 0, vI c, vI i] (h.set 2 (oI 1060 g)) Q := by
  refine cl_of rfl (Nat.le_of_ble_eq_true rfl) rfl ?_
  have hR := hI.r (by omega)
  refine wp_iload_n dX6_client_0 rfl ?_
  refine wp_bipush dX6_client_1 rfl ?_
  refine wp_is2 dX6_client_3 SX6_below lX6_81 (rq0 rfl rfl) (Nat.le_of_ble_eq_true rfl) (C_below (by first | assumption | exact hR _ | exact hR2 _ | exact bI_r _ | (unfold r32; omega)) (by first | assumption | exact hR _ | exact hR2 _ | exact bI_r _ | (unfold r32; omega)) ?_)
  dsimp only [pushR]
  refine wp_beq 18 dX6_client_6 rfl (fun c6 => ?_) (fun c6 => ?_)
  · refine wp_iconst dX6_client_18 ?_
    exact wp_iret dX6_client_19 rfl (by have e : cClient g c i = _ := if_neg c6; rw [e] at hQ; exact hQ)
  · refine wp_iload_n dX6_client_9 rfl ?_
    refine wp_bipush dX6_client_10 rfl ?_
    refine wp_is2 dX6_client_12 SX6_below lX6_81 (rq0 rfl rfl) (Nat.le_of_ble_eq_true rfl) (C_below (by first | assumption | exact hR _ | exact hR2 _ | exact bI_r _ | (unfold r32; omega)) (by first | assumption | exact hR _ | exact hR2 _ | exact bI_r _ | (unfold r32; omega)) ?_)
    dsimp only [pushR]
    refine wp_bne 20 dX6_client_15 rfl (fun c15 => ?_) (fun c15 => ?_)
    · refine wp_aload_n dX6_client_20 rfl ?_
      refine wp_getf dX6_client_21 fX6_10 (gs_ne (by decide) hC) rfl ?_
      refine wp_iload_n dX6_client_24 rfl ?_
      refine wp_iload_n dX6_client_25 rfl ?_
      refine sa_i2 hS dX6_client_26 VX5_clientPart lX6_154 (rq0 rfl rfl) (Nat.le_of_ble_eq_true rfl) (C_wclientPart hS hI (by omega) (by omega) (by omega) ?_)
      dsimp only [pushR]
      exact wp_iret dX6_client_29 rfl (by have e : cClient g c i = _ := (if_pos c6).trans (if_pos c15); rw [e] at hQ; exact hQ)
    · refine wp_iconst dX6_client_18 ?_
      exact wp_iret dX6_client_19 rfl (by have e : cClient g c i = _ := (if_pos c6).trans (if_neg c15); rw [e] at hQ; exact hQ)
def cStore (g : Int → Int) (r k i : Int) : Int := if 0 ≤ r ∧ r < 3 then if 0 ≤ k ∧ k < 10 then if 0 ≤ i ∧ i < 3 then if i = 2 then if g (42 + r * 10 + k) ≤ 0 then (-2) else g (42 + r * 10 + k) else if i = 0 then wVal g (wSv g r k) else wSv g r k else (-1) else (-1) else (-1)
set_option maxHeartbeats 2000000 in
theorem C_cstore {r k i : Int} (hS : SA 5 1 2 h) (hC : h[0]? = some (oO 6 (cF sp kp))) (hI : IW B g) (hBB : B + 1000 ≤ 1000000000) (rr : r32 r) (rk : r32 k) (ri : r32 i)  (hQ : Q (some (vI (cStore g r k i))) (h.set 2 (oI 1060 g))) : Cl X kX6_store [vR 0, vI r, vI k, vI i] (h.set 2 (oI 1060 g)) Q := by
  refine cl_of rfl (Nat.le_of_ble_eq_true rfl) rfl ?_
  have hR := hI.r (by omega)
  refine wp_iload_n dX6_store_0 rfl ?_
  refine wp_iconst dX6_store_1 ?_
  refine wp_is2 dX6_store_2 SX6_below lX6_81 (rq0 rfl rfl) (Nat.le_of_ble_eq_true rfl) (C_below (by first | assumption | exact hR _ | exact hR2 _ | exact bI_r _ | (unfold r32; omega)) (by first | assumption | exact hR _ | exact hR2 _ | exact bI_r _ | (unfold r32; omega)) ?_)
  dsimp only [pushR]
  refine wp_beq 25 dX6_store_5 rfl (fun c5 => ?_) (fun c5 => ?_)
  · refine wp_iconst dX6_store_25 ?_
    exact wp_iret dX6_store_26 rfl (by have e : cStore g r k i = _ := if_neg c5; rw [e] at hQ; exact hQ)
  · refine wp_iload_n dX6_store_8 rfl ?_
    refine wp_bipush dX6_store_9 rfl ?_
    refine wp_is2 dX6_store_11 SX6_below lX6_81 (rq0 rfl rfl) (Nat.le_of_ble_eq_true rfl) (C_below (by first | assumption | exact hR _ | exact hR2 _ | exact bI_r _ | (unfold r32; omega)) (by first | assumption | exact hR _ | exact hR2 _ | exact bI_r _ | (unfold r32; omega)) ?_)
    dsimp only [pushR]
    refine wp_beq 25 dX6_store_14 rfl (fun c14 => ?_) (fun c14 => ?_)
    · refine wp_iconst dX6_store_25 ?_
      exact wp_iret dX6_store_26 rfl (by have e : cStore g r k i = _ := (if_pos c5).trans (if_neg c14); rw [e] at hQ; exact hQ)
    · refine wp_iload_n dX6_store_17 rfl ?_
      refine wp_iconst dX6_store_18 ?_
      refine wp_is2 dX6_store_19 SX6_below lX6_81 (rq0 rfl rfl) (Nat.le_of_ble_eq_true rfl) (C_below (by first | assumption | exact hR _ | exact hR2 _ | exact bI_r _ | (unfold r32; omega)) (by first | assumption | exact hR _ | exact hR2 _ | exact bI_r _ | (unfold r32; omega)) ?_)
      dsimp only [pushR]
      refine wp_bne 27 dX6_store_22 rfl (fun c22 => ?_) (fun c22 => ?_)
      · refine wp_iload_n dX6_store_27 rfl ?_
        refine wp_iconst dX6_store_28 ?_
        refine wp_icmp_ne 59 dX6_store_29 rfl (by first | assumption | exact hR _ | exact hR2 _ | exact bI_r _ | (unfold r32; omega)) ⟨by omega, by omega⟩ (fun c29 => ?_) (fun c29 => ?_)
        · refine wp_aload_n dX6_store_59 rfl ?_
          refine wp_getf dX6_store_60 fX6_10 (gs_ne (by decide) hC) rfl ?_
          refine wp_iload_n dX6_store_63 rfl ?_
          refine wp_iload_n dX6_store_64 rfl ?_
          refine sa_i2 hS dX6_store_65 VX5_storeVersion lX6_160 (rq0 rfl rfl) (Nat.le_of_ble_eq_true rfl) (C_wstoreVersion hS hI (by omega) (by omega) (by omega) ?_)
          dsimp only [pushR]
          refine wp_istore (L' := [some (vR 0), some (vI r), some (vI k), some (vI i), some (vI (wSv g r k))]) dX6_store_68 (by decide) rfl ?_
          refine wp_iload_n dX6_store_70 rfl ?_
          refine wp_if_ne 86 dX6_store_71 rfl (by first | assumption | exact hR _ | exact hR2 _ | exact bI_r _ | (unfold r32; omega)) (fun c71 => ?_) (fun c71 => ?_)
          · refine wp_iload dX6_store_86 rfl ?_
            exact wp_iret dX6_store_88 rfl (by have e : cStore g r k i = _ := (if_pos c5).trans ((if_pos c14).trans ((if_pos c22).trans ((if_neg c29).trans (if_neg c71)))); rw [e] at hQ; exact hQ)
          · refine wp_aload_n dX6_store_74 rfl ?_
            refine wp_getf dX6_store_75 fX6_10 (gs_ne (by decide) hC) rfl ?_
            refine wp_iload dX6_store_78 rfl ?_
            refine sa_i1 hS dX6_store_80 VX5_valueOf lX6_163 (rq0 rfl rfl) (Nat.le_of_ble_eq_true rfl) (C_wvalueOf hS hI (by omega) (wSv_b hI (by omega) (by omega)) ?_)
            dsimp only [pushR]
            refine wp_goto 88 dX6_store_83 rfl ?_
            exact wp_iret dX6_store_88 rfl (by have e : cStore g r k i = _ := (if_pos c5).trans ((if_pos c14).trans ((if_pos c22).trans ((if_neg c29).trans (if_pos c71)))); rw [e] at hQ; exact hQ)
        · refine wp_aload_n dX6_store_32 rfl ?_
          refine wp_getf dX6_store_33 fX6_10 (gs_ne (by decide) hC) rfl ?_
          refine wp_iload_n dX6_store_36 rfl ?_
          refine wp_iload_n dX6_store_37 rfl ?_
          refine sa_i2 hS dX6_store_38 VX5_markerOf lX6_157 (rq0 rfl rfl) (Nat.le_of_ble_eq_true rfl) (C_wmarkerOf (v := g (42 + r * 10 + k)) hS (by omega) (by omega) rfl ?_)
          dsimp only [pushR]
          refine wp_if_le 56 dX6_store_41 rfl (by first | assumption | exact hR _ | exact hR2 _ | exact bI_r _ | (unfold r32; omega)) (fun c41 => ?_) (fun c41 => ?_)
          · refine wp_bipush dX6_store_56 rfl ?_
            exact wp_iret dX6_store_58 rfl (by have e : cStore g r k i = _ := (if_pos c5).trans ((if_pos c14).trans ((if_pos c22).trans ((if_pos c29).trans (if_pos c41)))); rw [e] at hQ; exact hQ)
          · refine wp_aload_n dX6_store_44 rfl ?_
            refine wp_getf dX6_store_45 fX6_10 (gs_ne (by decide) hC) rfl ?_
            refine wp_iload_n dX6_store_48 rfl ?_
            refine wp_iload_n dX6_store_49 rfl ?_
            refine sa_i2 hS dX6_store_50 VX5_markerOf lX6_157 (rq0 rfl rfl) (Nat.le_of_ble_eq_true rfl) (C_wmarkerOf (v := g (42 + r * 10 + k)) hS (by omega) (by omega) rfl ?_)
            dsimp only [pushR]
            refine wp_goto 58 dX6_store_53 rfl ?_
            exact wp_iret dX6_store_58 rfl (by have e : cStore g r k i = _ := (if_pos c5).trans ((if_pos c14).trans ((if_pos c22).trans ((if_pos c29).trans (if_neg c41)))); rw [e] at hQ; exact hQ)
      · refine wp_iconst dX6_store_25 ?_
        exact wp_iret dX6_store_26 rfl (by have e : cStore g r k i = _ := (if_pos c5).trans ((if_pos c14).trans (if_neg c22)); rw [e] at hQ; exact hQ)
def cRegion (g : Int → Int) (r i : Int) : Int := if 0 ≤ r ∧ r < 3 then if 0 ≤ i ∧ i < 3 then if i = 0 then g (30 + r) else if i = 1 then g 1 - g (30 + r) else g (33 + r) else (-1) else (-1)
set_option maxHeartbeats 2000000 in
theorem C_cregion {r i : Int} (hS : SA 5 1 2 h) (hC : h[0]? = some (oO 6 (cF sp kp))) (hI : IW B g) (hBB : B + 1000 ≤ 1000000000) (rr : r32 r) (ri : r32 i)  (hQ : Q (some (vI (cRegion g r i))) (h.set 2 (oI 1060 g))) : Cl X kX6_region [vR 0, vI r, vI i] (h.set 2 (oI 1060 g)) Q := by
  refine cl_of rfl (Nat.le_of_ble_eq_true rfl) rfl ?_
  have hR := hI.r (by omega)
  refine wp_iload_n dX6_region_0 rfl ?_
  refine wp_iconst dX6_region_1 ?_
  refine wp_is2 dX6_region_2 SX6_below lX6_81 (rq0 rfl rfl) (Nat.le_of_ble_eq_true rfl) (C_below (by first | assumption | exact hR _ | exact hR2 _ | exact bI_r _ | (unfold r32; omega)) (by first | assumption | exact hR _ | exact hR2 _ | exact bI_r _ | (unfold r32; omega)) ?_)
  dsimp only [pushR]
  refine wp_beq 16 dX6_region_5 rfl (fun c5 => ?_) (fun c5 => ?_)
  · refine wp_iconst dX6_region_16 ?_
    exact wp_iret dX6_region_17 rfl (by have e : cRegion g r i = _ := if_neg c5; rw [e] at hQ; exact hQ)
  · refine wp_iload_n dX6_region_8 rfl ?_
    refine wp_iconst dX6_region_9 ?_
    refine wp_is2 dX6_region_10 SX6_below lX6_81 (rq0 rfl rfl) (Nat.le_of_ble_eq_true rfl) (C_below (by first | assumption | exact hR _ | exact hR2 _ | exact bI_r _ | (unfold r32; omega)) (by first | assumption | exact hR _ | exact hR2 _ | exact bI_r _ | (unfold r32; omega)) ?_)
    dsimp only [pushR]
    refine wp_bne 18 dX6_region_13 rfl (fun c13 => ?_) (fun c13 => ?_)
    · refine wp_iload_n dX6_region_18 rfl ?_
      refine wp_if_ne 31 dX6_region_19 rfl (by first | assumption | exact hR _ | exact hR2 _ | exact bI_r _ | (unfold r32; omega)) (fun c19 => ?_) (fun c19 => ?_)
      · refine wp_iload_n dX6_region_31 rfl ?_
        refine wp_iconst dX6_region_32 ?_
        refine wp_icmp_ne 55 dX6_region_33 rfl (by first | assumption | exact hR _ | exact hR2 _ | exact bI_r _ | (unfold r32; omega)) ⟨by omega, by omega⟩ (fun c33 => ?_) (fun c33 => ?_)
        · refine wp_aload_n dX6_region_55 rfl ?_
          refine wp_getf dX6_region_56 fX6_10 (gs_ne (by decide) hC) rfl ?_
          refine wp_iload_n dX6_region_59 rfl ?_
          refine sa_i1 hS dX6_region_60 VX5_loadsOf lX6_172 (rq0 rfl rfl) (Nat.le_of_ble_eq_true rfl) (C_wloadsOf (v := g (33 + r)) hS (by omega) rfl ?_)
          dsimp only [pushR]
          exact wp_iret dX6_region_63 rfl (by have e : cRegion g r i = _ := (if_pos c5).trans ((if_pos c13).trans ((if_neg c19).trans (if_neg c33))); rw [e] at hQ; exact hQ)
        · refine wp_aload_n dX6_region_36 rfl ?_
          refine wp_getf dX6_region_37 fX6_10 (gs_ne (by decide) hC) rfl ?_
          refine sa_i0 hS dX6_region_40 VX5_writes lX6_169 (rq0 rfl rfl) (Nat.le_of_ble_eq_true rfl) (C_wwrites (v := g 1) hS rfl ?_)
          dsimp only [pushR]
          refine wp_aload_n dX6_region_43 rfl ?_
          refine wp_getf dX6_region_44 fX6_10 (gs_ne (by decide) hC) rfl ?_
          refine wp_iload_n dX6_region_47 rfl ?_
          refine sa_i1 hS dX6_region_48 VX5_placeOf lX6_166 (rq0 rfl rfl) (Nat.le_of_ble_eq_true rfl) (C_wplaceOf (v := g (30 + r)) hS (by omega) rfl ?_)
          dsimp only [pushR]
          refine wp_isub dX6_region_51 ?_
          refine wp_goto 63 dX6_region_52 rfl ?_
          exact wp_iret dX6_region_63 rfl (by have e : cRegion g r i = _ := (if_pos c5).trans ((if_pos c13).trans ((if_neg c19).trans (if_pos c33))); rw [e] at hQ; exact hQ)
      · refine wp_aload_n dX6_region_22 rfl ?_
        refine wp_getf dX6_region_23 fX6_10 (gs_ne (by decide) hC) rfl ?_
        refine wp_iload_n dX6_region_26 rfl ?_
        refine sa_i1 hS dX6_region_27 VX5_placeOf lX6_166 (rq0 rfl rfl) (Nat.le_of_ble_eq_true rfl) (C_wplaceOf (v := g (30 + r)) hS (by omega) rfl ?_)
        dsimp only [pushR]
        exact wp_iret dX6_region_30 rfl (by have e : cRegion g r i = _ := (if_pos c5).trans ((if_pos c13).trans (if_pos c19)); rw [e] at hQ; exact hQ)
    · refine wp_iconst dX6_region_16 ?_
      exact wp_iret dX6_region_17 rfl (by have e : cRegion g r i = _ := (if_pos c5).trans (if_neg c13); rw [e] at hQ; exact hQ)
theorem wLuL_b {k n : Int} : ∀ (m : Nat) (z : Int), 0 ≤ z → 0 ≤ wLuL g k n m z ∧ wLuL g k n m z ≤ z := by
  intro m
  induction m with
  | zero => intro z h; exact ⟨Int.le_refl 0, h⟩
  | succ m ih =>
    intro z h
    unfold wLuL
    split
    · exact ⟨h, Int.le_refl z⟩
    · split
      · exact ⟨h, Int.le_refl z⟩
      · have := ih (z + -1) (by omega)
        omega
def cWithin (g : Int → Int) (k n i : Int) : Int := if 0 ≤ k ∧ k < 10 then if n < 0 then (-1) else if g 1 < n then (-1) else if 0 ≤ i ∧ i < 2 then if i = 0 then wVal g (wLu g k n) else wLu g k n else (-1) else (-1)
set_option maxHeartbeats 2000000 in
theorem C_cwithin {k n i : Int} (hS : SA 5 1 2 h) (hC : h[0]? = some (oO 6 (cF sp kp))) (hI : IW B g) (hBB : B + 1000 ≤ 1000000000) (rk : r32 k) (rn : r32 n) (ri : r32 i)  (hQ : Q (some (vI (cWithin g k n i))) (h.set 2 (oI 1060 g))) : Cl X kX6_within [vR 0, vI k, vI n, vI i] (h.set 2 (oI 1060 g)) Q := by
  refine cl_of rfl (Nat.le_of_ble_eq_true rfl) rfl ?_
  have hR := hI.r (by omega)
  have q1 := hI.v60 (j := 1) (by omega)
  refine wp_iload_n dX6_within_0 rfl ?_
  refine wp_bipush dX6_within_1 rfl ?_
  refine wp_is2 dX6_within_3 SX6_below lX6_81 (rq0 rfl rfl) (Nat.le_of_ble_eq_true rfl) (C_below (by first | assumption | exact hR _ | exact hR2 _ | exact bI_r _ | (unfold r32; omega)) (by first | assumption | exact hR _ | exact hR2 _ | exact bI_r _ | (unfold r32; omega)) ?_)
  dsimp only [pushR]
  refine wp_beq 32 dX6_within_6 rfl (fun c6 => ?_) (fun c6 => ?_)
  · refine wp_iconst dX6_within_32 ?_
    exact wp_iret dX6_within_33 rfl (by have e : cWithin g k n i = _ := if_neg c6; rw [e] at hQ; exact hQ)
  · refine wp_iload_n dX6_within_9 rfl ?_
    refine wp_if_lt 32 dX6_within_10 rfl (by first | assumption | exact hR _ | exact hR2 _ | exact bI_r _ | (unfold r32; omega)) (fun c10 => ?_) (fun c10 => ?_)
    · refine wp_iconst dX6_within_32 ?_
      exact wp_iret dX6_within_33 rfl (by have e : cWithin g k n i = _ := (if_pos c6).trans (if_pos c10); rw [e] at hQ; exact hQ)
    · refine wp_iload_n dX6_within_13 rfl ?_
      refine wp_aload_n dX6_within_14 rfl ?_
      refine wp_getf dX6_within_15 fX6_10 (gs_ne (by decide) hC) rfl ?_
      refine sa_i0 hS dX6_within_18 VX5_writes lX6_169 (rq0 rfl rfl) (Nat.le_of_ble_eq_true rfl) (C_wwrites (v := g 1) hS rfl ?_)
      dsimp only [pushR]
      refine wp_icmp_gt 32 dX6_within_21 rfl (by first | assumption | exact hR _ | exact hR2 _ | exact bI_r _ | (unfold r32; omega)) (by first | assumption | exact hR _ | exact hR2 _ | exact bI_r _ | (unfold r32; omega)) (fun c21 => ?_) (fun c21 => ?_)
      · refine wp_iconst dX6_within_32 ?_
        exact wp_iret dX6_within_33 rfl (by have e : cWithin g k n i = _ := (if_pos c6).trans ((if_neg c10).trans (if_pos c21)); rw [e] at hQ; exact hQ)
      · refine wp_iload_n dX6_within_24 rfl ?_
        refine wp_iconst dX6_within_25 ?_
        refine wp_is2 dX6_within_26 SX6_below lX6_81 (rq0 rfl rfl) (Nat.le_of_ble_eq_true rfl) (C_below (by first | assumption | exact hR _ | exact hR2 _ | exact bI_r _ | (unfold r32; omega)) (by first | assumption | exact hR _ | exact hR2 _ | exact bI_r _ | (unfold r32; omega)) ?_)
        dsimp only [pushR]
        refine wp_bne 34 dX6_within_29 rfl (fun c29 => ?_) (fun c29 => ?_)
        · refine wp_aload_n dX6_within_34 rfl ?_
          refine wp_getf dX6_within_35 fX6_10 (gs_ne (by decide) hC) rfl ?_
          refine wp_iload_n dX6_within_38 rfl ?_
          refine wp_iload_n dX6_within_39 rfl ?_
          refine sa_i2 hS dX6_within_40 VX5_lastWriteUpTo lX6_175 (rq0 rfl rfl) (Nat.le_of_ble_eq_true rfl) (C_wlastWriteUpTo hS hI (by omega) (by omega) (by omega) ?_)
          dsimp only [pushR]
          refine wp_istore (L' := [some (vR 0), some (vI k), some (vI n), some (vI i), some (vI (wLu g k n))]) dX6_within_43 (by decide) rfl ?_
          refine wp_iload_n dX6_within_45 rfl ?_
          refine wp_if_ne 61 dX6_within_46 rfl (by first | assumption | exact hR _ | exact hR2 _ | exact bI_r _ | (unfold r32; omega)) (fun c46 => ?_) (fun c46 => ?_)
          · refine wp_iload dX6_within_61 rfl ?_
            exact wp_iret dX6_within_63 rfl (by have e : cWithin g k n i = _ := (if_pos c6).trans ((if_neg c10).trans ((if_neg c21).trans ((if_pos c29).trans (if_neg c46)))); rw [e] at hQ; exact hQ)
          · refine wp_aload_n dX6_within_49 rfl ?_
            refine wp_getf dX6_within_50 fX6_10 (gs_ne (by decide) hC) rfl ?_
            refine wp_iload dX6_within_53 rfl ?_
            refine sa_i1 hS dX6_within_55 VX5_valueOf lX6_163 (rq0 rfl rfl) (Nat.le_of_ble_eq_true rfl) (C_wvalueOf hS hI (by omega) (by have := wLuL_b (g := g) (k := k) (n := n) 60 n (by omega); unfold wLu; omega) ?_)
            dsimp only [pushR]
            refine wp_goto 63 dX6_within_58 rfl ?_
            exact wp_iret dX6_within_63 rfl (by have e : cWithin g k n i = _ := (if_pos c6).trans ((if_neg c10).trans ((if_neg c21).trans ((if_pos c29).trans (if_pos c46)))); rw [e] at hQ; exact hQ)
        · refine wp_iconst dX6_within_32 ?_
          exact wp_iret dX6_within_33 rfl (by have e : cWithin g k n i = _ := (if_pos c6).trans ((if_neg c10).trans ((if_neg c21).trans (if_neg c29))); rw [e] at hQ; exact hQ)
def cLeast (g : Int → Int) (a t : Int) : Int := if 0 ≤ a ∧ a < 6 then if 0 ≤ t ∧ t < 4 then wLk g a t else (-1) else (-1)
set_option maxHeartbeats 2000000 in
theorem C_cleast {a t : Int} (hS : SA 5 1 2 h) (hC : h[0]? = some (oO 6 (cF sp kp))) (hI : IW B g) (hBB : B + 1000 ≤ 1000000000) (ra : r32 a) (rt : r32 t)  (hQ : Q (some (vI (cLeast g a t))) (h.set 2 (oI 1060 g))) : Cl X kX6_least [vR 0, vI a, vI t] (h.set 2 (oI 1060 g)) Q := by
  refine cl_of rfl (Nat.le_of_ble_eq_true rfl) rfl ?_
  have hR := hI.r (by omega)
  refine wp_iload_n dX6_least_0 rfl ?_
  refine wp_bipush dX6_least_1 rfl ?_
  refine wp_is2 dX6_least_3 SX6_below lX6_81 (rq0 rfl rfl) (Nat.le_of_ble_eq_true rfl) (C_below (by first | assumption | exact hR _ | exact hR2 _ | exact bI_r _ | (unfold r32; omega)) (by first | assumption | exact hR _ | exact hR2 _ | exact bI_r _ | (unfold r32; omega)) ?_)
  dsimp only [pushR]
  refine wp_beq 17 dX6_least_6 rfl (fun c6 => ?_) (fun c6 => ?_)
  · refine wp_iconst dX6_least_17 ?_
    exact wp_iret dX6_least_18 rfl (by have e : cLeast g a t = _ := if_neg c6; rw [e] at hQ; exact hQ)
  · refine wp_iload_n dX6_least_9 rfl ?_
    refine wp_iconst dX6_least_10 ?_
    refine wp_is2 dX6_least_11 SX6_below lX6_81 (rq0 rfl rfl) (Nat.le_of_ble_eq_true rfl) (C_below (by first | assumption | exact hR _ | exact hR2 _ | exact bI_r _ | (unfold r32; omega)) (by first | assumption | exact hR _ | exact hR2 _ | exact bI_r _ | (unfold r32; omega)) ?_)
    dsimp only [pushR]
    refine wp_bne 19 dX6_least_14 rfl (fun c14 => ?_) (fun c14 => ?_)
    · refine wp_aload_n dX6_least_19 rfl ?_
      refine wp_getf dX6_least_20 fX6_10 (gs_ne (by decide) hC) rfl ?_
      refine wp_iload_n dX6_least_23 rfl ?_
      refine wp_iload_n dX6_least_24 rfl ?_
      refine sa_i2 hS dX6_least_25 VX5_leastKey lX6_178 (rq0 rfl rfl) (Nat.le_of_ble_eq_true rfl) (C_wleastKey hS hI (by omega) (by omega) (by omega) ?_)
      dsimp only [pushR]
      exact wp_iret dX6_least_28 rfl (by have e : cLeast g a t = _ := (if_pos c6).trans (if_pos c14); rw [e] at hQ; exact hQ)
    · refine wp_iconst dX6_least_17 ?_
      exact wp_iret dX6_least_18 rfl (by have e : cLeast g a t = _ := (if_pos c6).trans (if_neg c14); rw [e] at hQ; exact hQ)
def cOutdated (g : Int → Int) (a : Int) : Int := if 0 ≤ a ∧ a < 6 then wOk g a else (-1)
set_option maxHeartbeats 2000000 in
theorem C_coutdated {a : Int} (hS : SA 5 1 2 h) (hC : h[0]? = some (oO 6 (cF sp kp))) (hI : IW B g) (hBB : B + 1000 ≤ 1000000000) (ra : r32 a)  (hQ : Q (some (vI (cOutdated g a))) (h.set 2 (oI 1060 g))) : Cl X kX6_outdated [vR 0, vI a] (h.set 2 (oI 1060 g)) Q := by
  refine cl_of rfl (Nat.le_of_ble_eq_true rfl) rfl ?_
  have hR := hI.r (by omega)
  refine wp_iload_n dX6_outdated_0 rfl ?_
  refine wp_bipush dX6_outdated_1 rfl ?_
  refine wp_is2 dX6_outdated_3 SX6_below lX6_81 (rq0 rfl rfl) (Nat.le_of_ble_eq_true rfl) (C_below (by first | assumption | exact hR _ | exact hR2 _ | exact bI_r _ | (unfold r32; omega)) (by first | assumption | exact hR _ | exact hR2 _ | exact bI_r _ | (unfold r32; omega)) ?_)
  dsimp only [pushR]
  refine wp_beq 20 dX6_outdated_6 rfl (fun c6 => ?_) (fun c6 => ?_)
  · refine wp_iconst dX6_outdated_20 ?_
    exact wp_iret dX6_outdated_21 rfl (by have e : cOutdated g a = _ := if_neg c6; rw [e] at hQ; exact hQ)
  · refine wp_aload_n dX6_outdated_9 rfl ?_
    refine wp_getf dX6_outdated_10 fX6_10 (gs_ne (by decide) hC) rfl ?_
    refine wp_iload_n dX6_outdated_13 rfl ?_
    refine sa_i1 hS dX6_outdated_14 VX5_outdatedKeys lX6_181 (rq0 rfl rfl) (Nat.le_of_ble_eq_true rfl) (C_woutdatedKeys hS hI (by omega) (by omega) ?_)
    dsimp only [pushR]
    refine wp_goto 21 dX6_outdated_17 rfl ?_
    exact wp_iret dX6_outdated_21 rfl (by have e : cOutdated g a = _ := if_pos c6; rw [e] at hQ; exact hQ)
def cLag (g : Int → Int) (a k : Int) : Int := if 0 ≤ a ∧ a < 6 then if 0 ≤ k ∧ k < 10 then if g 0 < g (sA a k + 5) then wBh g k (g (sA a k + 1)) else (-2) else (-1) else (-1)
set_option maxHeartbeats 2000000 in
theorem C_clag {a k : Int} (hS : SA 5 1 2 h) (hC : h[0]? = some (oO 6 (cF sp kp))) (hI : IW B g) (hBB : B + 1000 ≤ 1000000000) (ra : r32 a) (rk : r32 k) (hV : ∀ a k, 0 ≤ a ∧ a < 6 → 0 ≤ k ∧ k < 10 → 0 ≤ g (sA a k + 1) ∧ g (sA a k + 1) ≤ 60) (hQ : Q (some (vI (cLag g a k))) (h.set 2 (oI 1060 g))) : Cl X kX6_lag [vR 0, vI a, vI k] (h.set 2 (oI 1060 g)) Q := by
  refine cl_of rfl (Nat.le_of_ble_eq_true rfl) rfl ?_
  have hR := hI.r (by omega)
  refine wp_iload_n dX6_lag_0 rfl ?_
  refine wp_bipush dX6_lag_1 rfl ?_
  refine wp_is2 dX6_lag_3 SX6_below lX6_81 (rq0 rfl rfl) (Nat.le_of_ble_eq_true rfl) (C_below (by first | assumption | exact hR _ | exact hR2 _ | exact bI_r _ | (unfold r32; omega)) (by first | assumption | exact hR _ | exact hR2 _ | exact bI_r _ | (unfold r32; omega)) ?_)
  dsimp only [pushR]
  refine wp_beq 18 dX6_lag_6 rfl (fun c6 => ?_) (fun c6 => ?_)
  · refine wp_iconst dX6_lag_18 ?_
    exact wp_iret dX6_lag_19 rfl (by have e : cLag g a k = _ := if_neg c6; rw [e] at hQ; exact hQ)
  · refine wp_iload_n dX6_lag_9 rfl ?_
    refine wp_bipush dX6_lag_10 rfl ?_
    refine wp_is2 dX6_lag_12 SX6_below lX6_81 (rq0 rfl rfl) (Nat.le_of_ble_eq_true rfl) (C_below (by first | assumption | exact hR _ | exact hR2 _ | exact bI_r _ | (unfold r32; omega)) (by first | assumption | exact hR _ | exact hR2 _ | exact bI_r _ | (unfold r32; omega)) ?_)
    dsimp only [pushR]
    refine wp_bne 20 dX6_lag_15 rfl (fun c15 => ?_) (fun c15 => ?_)
    · refine wp_aload_n dX6_lag_20 rfl ?_
      refine wp_getf dX6_lag_21 fX6_10 (gs_ne (by decide) hC) rfl ?_
      refine wp_iload_n dX6_lag_24 rfl ?_
      refine wp_iload_n dX6_lag_25 rfl ?_
      refine sa_i2 hS dX6_lag_26 VX5_hasEntry lX6_145 (rq0 rfl rfl) (Nat.le_of_ble_eq_true rfl) (C_whasEntry (v0 := g 0) (v1 := g (sA a k + 5)) hS (by omega) (by omega) rfl rfl (by first | assumption | exact hR _ | exact hR2 _ | exact bI_r _ | (unfold r32; omega)) (by first | assumption | exact hR _ | exact hR2 _ | exact bI_r _ | (unfold r32; omega)) ?_)
      dsimp only [pushR]
      refine wp_bne 35 dX6_lag_29 rfl (fun c29 => ?_) (fun c29 => ?_)
      · refine wp_aload_n dX6_lag_35 rfl ?_
        refine wp_getf dX6_lag_36 fX6_10 (gs_ne (by decide) hC) rfl ?_
        refine wp_iload_n dX6_lag_39 rfl ?_
        refine wp_aload_n dX6_lag_40 rfl ?_
        refine wp_getf dX6_lag_41 fX6_10 (gs_ne (by decide) hC) rfl ?_
        refine wp_iload_n dX6_lag_44 rfl ?_
        refine wp_iload_n dX6_lag_45 rfl ?_
        refine wp_iconst dX6_lag_46 ?_
        refine sa_i3 hS dX6_lag_47 VX5_entryPart lX6_148 (rq0 rfl rfl) (Nat.le_of_ble_eq_true rfl) (C_wentryPart (v := g (sA a k + 1)) hS (by omega) (by omega) (by omega) rfl ?_)
        dsimp only [pushR]
        refine sa_i2 hS dX6_lag_50 VX5_writesBehind lX6_184 (rq0 rfl rfl) (Nat.le_of_ble_eq_true rfl) (C_wwritesBehind hS hI (by omega) (by omega) (hV _ _ (by omega) (by omega)) ?_)
        dsimp only [pushR]
        exact wp_iret dX6_lag_53 rfl (by have e : cLag g a k = _ := (if_pos c6).trans ((if_pos c15).trans (if_pos c29)); rw [e] at hQ; exact hQ)
      · refine wp_bipush dX6_lag_32 rfl ?_
        exact wp_iret dX6_lag_34 rfl (by have e : cLag g a k = _ := (if_pos c6).trans ((if_pos c15).trans (if_neg c29)); rw [e] at hQ; exact hQ)
    · refine wp_iconst dX6_lag_18 ?_
      exact wp_iret dX6_lag_19 rfl (by have e : cLag g a k = _ := (if_pos c6).trans (if_neg c15); rw [e] at hQ; exact hQ)
theorem wLbL_b {c k : Int} : ∀ (m : Nat) (z : Int), 0 ≤ z → 0 ≤ wLbL g c k m z ∧ wLbL g c k m z ≤ z := by
  intro m
  induction m with
  | zero => intro z h; exact ⟨Int.le_refl 0, h⟩
  | succ m ih =>
    intro z h
    unfold wLbL
    split
    · exact ⟨h, Int.le_refl z⟩
    · split
      · have := ih (z + -1) (by omega)
        omega
      · exact ⟨h, Int.le_refl z⟩
theorem wLb_r (hI : IW B g) {c k : Int} : r32 (wLb g c k) := by
  have q1 := hI.v60 (j := 1) (by omega)
  have := wLbL_b (g := g) (c := c) (k := k) 60 (g 1) q1.1
  unfold wLb r32
  omega
def cOwn (g : Int → Int) (c k : Int) : Int := if 0 ≤ c ∧ c < 6 then if 0 ≤ k ∧ k < 10 then if g 0 < g (sA (g (cA c + 0)) k + 5) then if g (sA (g (cA c + 0)) k + 1) < wLb g c k then 0 else 1 else (-2) else (-1) else (-1)
set_option maxHeartbeats 2000000 in
theorem C_cown {c k : Int} (hS : SA 5 1 2 h) (hC : h[0]? = some (oO 6 (cF sp kp))) (hI : IW B g) (hBB : B + 1000 ≤ 1000000000) (rc : r32 c) (rk : r32 k)  (hQ : Q (some (vI (cOwn g c k))) (h.set 2 (oI 1060 g))) : Cl X kX6_own [vR 0, vI c, vI k] (h.set 2 (oI 1060 g)) Q := by
  refine cl_of rfl (Nat.le_of_ble_eq_true rfl) rfl ?_
  have hR := hI.r (by omega)
  have hcg : ¬ (0 ≤ c ∧ c < 6) ∨ 0 ≤ g (cA c + 0) ∧ g (cA c + 0) < 6 := (Decidable.em (0 ≤ c ∧ c < 6)).elim (fun q => Or.inr (hI.cg q)) Or.inl
  refine wp_iload_n dX6_own_0 rfl ?_
  refine wp_bipush dX6_own_1 rfl ?_
  refine wp_is2 dX6_own_3 SX6_below lX6_81 (rq0 rfl rfl) (Nat.le_of_ble_eq_true rfl) (C_below (by first | assumption | exact hR _ | exact hR2 _ | exact bI_r _ | (unfold r32; omega)) (by first | assumption | exact hR _ | exact hR2 _ | exact bI_r _ | (unfold r32; omega)) ?_)
  dsimp only [pushR]
  refine wp_beq 18 dX6_own_6 rfl (fun c6 => ?_) (fun c6 => ?_)
  · refine wp_iconst dX6_own_18 ?_
    exact wp_iret dX6_own_19 rfl (by have e : cOwn g c k = _ := if_neg c6; rw [e] at hQ; exact hQ)
  · refine wp_iload_n dX6_own_9 rfl ?_
    refine wp_bipush dX6_own_10 rfl ?_
    refine wp_is2 dX6_own_12 SX6_below lX6_81 (rq0 rfl rfl) (Nat.le_of_ble_eq_true rfl) (C_below (by first | assumption | exact hR _ | exact hR2 _ | exact bI_r _ | (unfold r32; omega)) (by first | assumption | exact hR _ | exact hR2 _ | exact bI_r _ | (unfold r32; omega)) ?_)
    dsimp only [pushR]
    refine wp_bne 20 dX6_own_15 rfl (fun c15 => ?_) (fun c15 => ?_)
    · refine wp_aload_n dX6_own_20 rfl ?_
      refine wp_getf dX6_own_21 fX6_10 (gs_ne (by decide) hC) rfl ?_
      refine wp_iload_n dX6_own_24 rfl ?_
      refine sa_i1 hS dX6_own_25 VX5_groupOf lX6_187 (rq0 rfl rfl) (Nat.le_of_ble_eq_true rfl) (C_wgroupOf (v := g (cA c + 0)) hS (by omega) rfl ?_)
      dsimp only [pushR]
      refine wp_istore_n (L' := [some (vR 0), some (vI c), some (vI k), some (vI (g (cA c + 0)))]) dX6_own_28 (by decide) rfl ?_
      refine wp_aload_n dX6_own_29 rfl ?_
      refine wp_getf dX6_own_30 fX6_10 (gs_ne (by decide) hC) rfl ?_
      refine wp_iload_n dX6_own_33 rfl ?_
      refine wp_iload_n dX6_own_34 rfl ?_
      refine sa_i2 hS dX6_own_35 VX5_hasEntry lX6_145 (rq0 rfl rfl) (Nat.le_of_ble_eq_true rfl) (C_whasEntry (v0 := g 0) (v1 := g (sA (g (cA c + 0)) k + 5)) hS (by omega) (by omega) rfl rfl (by first | assumption | exact hR _ | exact hR2 _ | exact bI_r _ | (unfold r32; omega)) (by first | assumption | exact hR _ | exact hR2 _ | exact bI_r _ | (unfold r32; omega)) ?_)
      dsimp only [pushR]
      refine wp_bne 44 dX6_own_38 rfl (fun c38 => ?_) (fun c38 => ?_)
      · refine wp_aload_n dX6_own_44 rfl ?_
        refine wp_getf dX6_own_45 fX6_10 (gs_ne (by decide) hC) rfl ?_
        refine wp_iload_n dX6_own_48 rfl ?_
        refine wp_iload_n dX6_own_49 rfl ?_
        refine wp_iconst dX6_own_50 ?_
        refine sa_i3 hS dX6_own_51 VX5_entryPart lX6_148 (rq0 rfl rfl) (Nat.le_of_ble_eq_true rfl) (C_wentryPart (v := g (sA (g (cA c + 0)) k + 1)) hS (by omega) (by omega) (by omega) rfl ?_)
        dsimp only [pushR]
        refine wp_aload_n dX6_own_54 rfl ?_
        refine wp_getf dX6_own_55 fX6_10 (gs_ne (by decide) hC) rfl ?_
        refine wp_iload_n dX6_own_58 rfl ?_
        refine wp_iload_n dX6_own_59 rfl ?_
        refine sa_i2 hS dX6_own_60 VX5_lastWriteBy lX6_190 (rq0 rfl rfl) (Nat.le_of_ble_eq_true rfl) (C_wlastWriteBy hS hI (by omega) (by omega) (by omega) ?_)
        dsimp only [pushR]
        refine wp_icmp_lt 70 dX6_own_63 rfl (by first | exact wLb_r hI | exact hR _) (by first | exact wLb_r hI | exact hR _) (fun c63 => ?_) (fun c63 => ?_)
        · refine wp_iconst dX6_own_70 ?_
          exact wp_iret dX6_own_71 rfl (by have e : cOwn g c k = _ := (if_pos c6).trans ((if_pos c15).trans ((if_pos c38).trans (if_pos c63))); rw [e] at hQ; exact hQ)
        · refine wp_iconst dX6_own_66 ?_
          refine wp_goto 71 dX6_own_67 rfl ?_
          exact wp_iret dX6_own_71 rfl (by have e : cOwn g c k = _ := (if_pos c6).trans ((if_pos c15).trans ((if_pos c38).trans (if_neg c63))); rw [e] at hQ; exact hQ)
      · refine wp_bipush dX6_own_41 rfl ?_
        exact wp_iret dX6_own_43 rfl (by have e : cOwn g c k = _ := (if_pos c6).trans ((if_pos c15).trans (if_neg c38)); rw [e] at hQ; exact hQ)
    · refine wp_iconst dX6_own_18 ?_
      exact wp_iret dX6_own_19 rfl (by have e : cOwn g c k = _ := (if_pos c6).trans (if_neg c15); rw [e] at hQ; exact hQ)
theorem wDcL_r (hI : IW B g) (hBB : B ≤ 8000000) {j : Int} : ∀ (m : Nat) (k z : Int), r32 z → r32 (wDcL g j m k z) := by
  intro m
  induction m with
  | zero =>
    intro k z h
    unfold wDcL
    (repeat' split) <;> first | exact h | (unfold r32; omega)
  | succ m ih =>
    intro k z h
    unfold wDcL
    (repeat' split) <;> first | exact h | exact ih _ _ (wDb_r hI hBB) | (unfold r32; omega)
theorem wDc_r (hI : IW B g) (hBB : B ≤ 8000000) {j : Int} : r32 (wDc g j) := wDcL_r hI hBB 240 0 (-1) (by unfold r32; omega)
def cDue (g : Int → Int) (k i : Int) : Int := if k < 0 then (-1) else if 0 ≤ i ∧ i < 3 then if 0 ≤ wDc g k then if i = 0 then (wDc g k) / 240 else if i = 1 then (wDc g k) / 60 % 4 else (wDc g k) % 60 / 10 * 100 + (wDc g k) % 60 % 10 else (-2) else (-1)
set_option maxHeartbeats 2000000 in
theorem C_cdue {k i : Int} (hS : SA 5 1 2 h) (hC : h[0]? = some (oO 6 (cF sp kp))) (hI : IW B g) (hBB : B ≤ 8000000) (rk : r32 k) (ri : r32 i)  (hQ : Q (some (vI (cDue g k i))) (h.set 2 (oI 1060 g))) : Cl X kX6_due [vR 0, vI k, vI i] (h.set 2 (oI 1060 g)) Q := by
  refine cl_of rfl (Nat.le_of_ble_eq_true rfl) rfl ?_
  have hR := hI.r (by omega)
  refine wp_iload_n dX6_due_0 rfl ?_
  refine wp_if_lt 12 dX6_due_1 rfl (by first | assumption | exact hR _ | exact wDc_r hI hBB | (unfold r32; omega)) (fun c1 => ?_) (fun c1 => ?_)
  · refine wp_iconst dX6_due_12 ?_
    exact wp_iret dX6_due_13 rfl (by have e : cDue g k i = _ := if_pos c1; rw [e] at hQ; exact hQ)
  · refine wp_iload_n dX6_due_4 rfl ?_
    refine wp_iconst dX6_due_5 ?_
    refine wp_is2 dX6_due_6 SX6_below lX6_81 (rq0 rfl rfl) (Nat.le_of_ble_eq_true rfl) (C_below (by first | assumption | exact hR _ | exact hR2 _ | exact bI_r _ | (unfold r32; omega)) (by first | assumption | exact hR _ | exact hR2 _ | exact bI_r _ | (unfold r32; omega)) ?_)
    dsimp only [pushR]
    refine wp_bne 14 dX6_due_9 rfl (fun c9 => ?_) (fun c9 => ?_)
    · refine wp_aload_n dX6_due_14 rfl ?_
      refine wp_getf dX6_due_15 fX6_10 (gs_ne (by decide) hC) rfl ?_
      refine wp_iload_n dX6_due_18 rfl ?_
      refine sa_i1 hS dX6_due_19 VX5_dueCode lX6_193 (rq0 rfl rfl) (Nat.le_of_ble_eq_true rfl) (C_wdueCode hS hI (by omega) ⟨by omega, by assumption⟩ ?_)
      dsimp only [pushR]
      refine wp_istore_n (L' := [some (vR 0), some (vI k), some (vI i), some (vI (wDc g k))]) dX6_due_22 (by decide) rfl ?_
      refine wp_iload_n dX6_due_23 rfl ?_
      refine wp_if_ge 30 dX6_due_24 rfl (by first | assumption | exact hR _ | exact wDc_r hI hBB | (unfold r32; omega)) (fun c24 => ?_) (fun c24 => ?_)
      · refine wp_iload_n dX6_due_30 rfl ?_
        refine wp_if_ne 39 dX6_due_31 rfl (by first | assumption | exact hR _ | exact wDc_r hI hBB | (unfold r32; omega)) (fun c31 => ?_) (fun c31 => ?_)
        · refine wp_iload_n dX6_due_39 rfl ?_
          refine wp_iconst dX6_due_40 ?_
          refine wp_icmp_ne 51 dX6_due_41 rfl (by first | assumption | exact hR _ | exact wDc_r hI hBB | (unfold r32; omega)) ⟨by omega, by omega⟩ (fun c41 => ?_) (fun c41 => ?_)
          · refine wp_iload_n dX6_due_51 rfl ?_
            refine wp_is1 dX6_due_52 SX5_spotOfDue lX6_202 (rq0 rfl rfl) (Nat.le_of_ble_eq_true rfl) (C_wspotOfDue (by omega) (wDc_r hI hBB) ?_)
            dsimp only [pushR]
            exact wp_iret dX6_due_55 rfl (by have e : cDue g k i = _ := (if_neg c1).trans ((if_pos c9).trans ((if_pos c24).trans ((if_neg c31).trans (if_neg c41)))); rw [e] at hQ; exact hQ)
          · refine wp_iload_n dX6_due_44 rfl ?_
            refine wp_is1 dX6_due_45 SX5_kindOfDue lX6_199 (rq0 rfl rfl) (Nat.le_of_ble_eq_true rfl) (C_wkindOfDue (by omega) (wDc_r hI hBB) ?_)
            dsimp only [pushR]
            refine wp_goto 55 dX6_due_48 rfl ?_
            exact wp_iret dX6_due_55 rfl (by have e : cDue g k i = _ := (if_neg c1).trans ((if_pos c9).trans ((if_pos c24).trans ((if_neg c31).trans (if_pos c41)))); rw [e] at hQ; exact hQ)
        · refine wp_iload_n dX6_due_34 rfl ?_
          refine wp_is1 dX6_due_35 SX5_endOfDue lX6_196 (rq0 rfl rfl) (Nat.le_of_ble_eq_true rfl) (C_wendOfDue (by omega) (wDc_r hI hBB) ?_)
          dsimp only [pushR]
          exact wp_iret dX6_due_38 rfl (by have e : cDue g k i = _ := (if_neg c1).trans ((if_pos c9).trans ((if_pos c24).trans (if_pos c31))); rw [e] at hQ; exact hQ)
      · refine wp_bipush dX6_due_27 rfl ?_
        exact wp_iret dX6_due_29 rfl (by have e : cDue g k i = _ := (if_neg c1).trans ((if_pos c9).trans (if_neg c24)); rw [e] at hQ; exact hQ)
    · refine wp_iconst dX6_due_12 ?_
      exact wp_iret dX6_due_13 rfl (by have e : cDue g k i = _ := (if_neg c1).trans (if_neg c9); rw [e] at hQ; exact hQ)
def cLed (g : Int → Int) (i : Int) : Int := if 0 ≤ i ∧ i < 10 then g (10 + i) else (-1)
set_option maxHeartbeats 2000000 in
theorem C_cled {i : Int} (hS : SA 5 1 2 h) (hC : h[0]? = some (oO 6 (cF sp kp))) (hI : IW B g) (hBB : B + 1000 ≤ 1000000000) (ri : r32 i)  (hQ : Q (some (vI (cLed g i))) (h.set 2 (oI 1060 g))) : Cl X kX6_led [vR 0, vI i] (h.set 2 (oI 1060 g)) Q := by
  refine cl_of rfl (Nat.le_of_ble_eq_true rfl) rfl ?_
  have hR := hI.r (by omega)
  refine wp_iload_n dX6_led_0 rfl ?_
  refine wp_bipush dX6_led_1 rfl ?_
  refine wp_is2 dX6_led_3 SX6_below lX6_81 (rq0 rfl rfl) (Nat.le_of_ble_eq_true rfl) (C_below (by first | assumption | exact hR _ | exact hR2 _ | exact bI_r _ | (unfold r32; omega)) (by first | assumption | exact hR _ | exact hR2 _ | exact bI_r _ | (unfold r32; omega)) ?_)
  dsimp only [pushR]
  refine wp_beq 20 dX6_led_6 rfl (fun c6 => ?_) (fun c6 => ?_)
  · refine wp_iconst dX6_led_20 ?_
    exact wp_iret dX6_led_21 rfl (by have e : cLed g i = _ := if_neg c6; rw [e] at hQ; exact hQ)
  · refine wp_aload_n dX6_led_9 rfl ?_
    refine wp_getf dX6_led_10 fX6_10 (gs_ne (by decide) hC) rfl ?_
    refine wp_iload_n dX6_led_13 rfl ?_
    refine sa_i1 hS dX6_led_14 VX5_ledOf lX6_208 (rq0 rfl rfl) (Nat.le_of_ble_eq_true rfl) (C_wledOf (v := g (10 + i)) hS (by omega) rfl ?_)
    dsimp only [pushR]
    refine wp_goto 21 dX6_led_17 rfl ?_
    exact wp_iret dX6_led_21 rfl (by have e : cLed g i = _ := if_pos c6; rw [e] at hQ; exact hQ)
def cHottest (g : Int → Int) (j : Int) : Int := if 0 ≤ j ∧ j < 10 then wHk g j else (-1)
set_option maxHeartbeats 2000000 in
theorem C_chottest {j : Int} (hS : SA 5 1 2 h) (hC : h[0]? = some (oO 6 (cF sp kp))) (hI : IW B g) (hBB : B + 1000 ≤ 1000000000) (rj : r32 j)  (hQ : Q (some (vI (cHottest g j))) (h.set 2 (oI 1060 g))) : Cl X kX6_hottest [vR 0, vI j] (h.set 2 (oI 1060 g)) Q := by
  refine cl_of rfl (Nat.le_of_ble_eq_true rfl) rfl ?_
  have hR := hI.r (by omega)
  refine wp_iload_n dX6_hottest_0 rfl ?_
  refine wp_bipush dX6_hottest_1 rfl ?_
  refine wp_is2 dX6_hottest_3 SX6_below lX6_81 (rq0 rfl rfl) (Nat.le_of_ble_eq_true rfl) (C_below (by first | assumption | exact hR _ | exact hR2 _ | exact bI_r _ | (unfold r32; omega)) (by first | assumption | exact hR _ | exact hR2 _ | exact bI_r _ | (unfold r32; omega)) ?_)
  dsimp only [pushR]
  refine wp_beq 20 dX6_hottest_6 rfl (fun c6 => ?_) (fun c6 => ?_)
  · refine wp_iconst dX6_hottest_20 ?_
    exact wp_iret dX6_hottest_21 rfl (by have e : cHottest g j = _ := if_neg c6; rw [e] at hQ; exact hQ)
  · refine wp_aload_n dX6_hottest_9 rfl ?_
    refine wp_getf dX6_hottest_10 fX6_10 (gs_ne (by decide) hC) rfl ?_
    refine wp_iload_n dX6_hottest_13 rfl ?_
    refine sa_i1 hS dX6_hottest_14 VX5_hotKey lX6_205 (rq0 rfl rfl) (Nat.le_of_ble_eq_true rfl) (C_whotKey hS hI (by omega) (by omega) ?_)
    dsimp only [pushR]
    refine wp_goto 21 dX6_hottest_17 rfl ?_
    exact wp_iret dX6_hottest_21 rfl (by have e : cHottest g j = _ := if_pos c6; rw [e] at hQ; exact hQ)
end CQ
