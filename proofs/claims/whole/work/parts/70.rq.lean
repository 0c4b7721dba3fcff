/-! the reference: what there is -/
section RQ
variable {X : XS} {h : AH} {Q : Option AV → AH → Prop} {p q : Nat} {g : Int → Int} {B : Int}
theorem IM.r (hI : IM B g) (h : B ≤ 1000000000) : ∀ j, r32 (g j) := fun j => by have := hI.b j; unfold r32; omega
theorem or_0 (n : Int) : Int32.ofInt n ||| Int32.ofInt 0 = Int32.ofInt n := Int32.or_zero
def rSetting (g : Int → Int) (i : Int) : Int := if 0 ≤ i ∧ i ≤ 6 then g (3 + i) else (-1)
set_option maxHeartbeats 2000000 in
theorem C_rsetting {i : Int} (hS : SA 7 p q h) (hI : IM B g) (hBB : B + 1000 ≤ 1000000000) (ri : r32 i)  (hQ : Q (some (vI (rSetting g i))) (h.set q (oI 1014 g))) : Cl X kX7_setting [vR p, vI i] (h.set q (oI 1014 g)) Q := by
  refine cl_of rfl (Nat.le_of_ble_eq_true rfl) rfl ?_
  have hR := hI.r (by omega)
  refine wp_iload_n dX7_setting_0 rfl ?_
  refine wp_i2l dX7_setting_1 (by first | assumption | exact hR _ | exact hR2 _ | exact bI_r _ | (unfold r32; omega)) ?_
  refine wp_lconst (z := 0) dX7_setting_2 rfl ?_
  refine wp_ldc2 dX7_setting_3 cX7_193 ?_
  refine wp_is3 dX7_setting_6 SX7_in lX7_94 (rq0 rfl rfl) (Nat.le_of_ble_eq_true rfl) (C_in (by first | assumption | (unfold r64 r32 at *; omega)) (by first | assumption | (unfold r64 r32 at *; omega)) (by first | assumption | (unfold r64 r32 at *; omega)) ?_)
  dsimp only [pushR]
  refine wp_beq 23 dX7_setting_9 rfl (fun c9 => ?_) (fun c9 => ?_)
  · refine wp_iconst dX7_setting_23 ?_
    exact wp_iret dX7_setting_24 rfl (by have e : rSetting g i = _ := if_neg c9; rw [e] at hQ; exact hQ)
  · refine wp_aload_n dX7_setting_12 rfl ?_
    refine sa_get hS dX7_setting_13 fX7_9 ?_
    refine wp_iconst dX7_setting_16 ?_
    refine wp_iload_n dX7_setting_17 rfl ?_
    refine wp_iadd dX7_setting_18 ?_
    refine sa_ld (v := g (3 + i)) hS dX7_setting_19 (by decide) (by first | omega | (unfold eA; omega) | (unfold oA; omega) | (unfold lA; omega) | (unfold dA; omega) | (unfold hA; omega)) rfl ?_
    refine wp_goto 24 dX7_setting_20 rfl ?_
    exact wp_iret dX7_setting_24 rfl (by have e : rSetting g i = _ := if_pos c9; rw [e] at hQ; exact hQ)
def rEntry (g : Int → Int) (a k i : Int) : Int := if 0 ≤ a ∧ a ≤ 5 then if 0 ≤ k ∧ k ≤ 9 then if 0 ≤ i ∧ i ≤ 5 then if g 0 < g (eA a k) then if i = 5 then g (eA a k) else g (eA a k + 1 + i) else (-2) else (-1) else (-1) else (-1)
set_option maxHeartbeats 2000000 in
theorem C_rentry {a k i : Int} (hS : SA 7 p q h) (hI : IM B g) (hBB : B + 1000 ≤ 1000000000) (ra : r32 a) (rk : r32 k) (ri : r32 i)  (hQ : Q (some (vI (rEntry g a k i))) (h.set q (oI 1014 g))) : Cl X kX7_entry [vR p, vI a, vI k, vI i] (h.set q (oI 1014 g)) Q := by
  refine cl_of rfl (Nat.le_of_ble_eq_true rfl) rfl ?_
  have hR := hI.r (by omega)
  refine wp_iload_n dX7_entry_0 rfl ?_
  refine wp_is1 dX7_entry_1 SX7_isGroup lX7_187 (rq0 rfl rfl) (Nat.le_of_ble_eq_true rfl) (C_isGroup (by first | assumption | exact hR _ | exact hR2 _ | exact bI_r _ | (unfold r32; omega)) ?_)
  dsimp only [pushR]
  refine wp_beq 26 dX7_entry_4 rfl (fun c4 => ?_) (fun c4 => ?_)
  · refine wp_iconst dX7_entry_26 ?_
    exact wp_iret dX7_entry_27 rfl (by have e : rEntry g a k i = _ := if_neg c4; rw [e] at hQ; exact hQ)
  · refine wp_iload_n dX7_entry_7 rfl ?_
    refine wp_is1 dX7_entry_8 SX7_isKey lX7_158 (rq0 rfl rfl) (Nat.le_of_ble_eq_true rfl) (C_isKey (by first | assumption | exact hR _ | exact hR2 _ | exact bI_r _ | (unfold r32; omega)) ?_)
    dsimp only [pushR]
    refine wp_beq 26 dX7_entry_11 rfl (fun c11 => ?_) (fun c11 => ?_)
    · refine wp_iconst dX7_entry_26 ?_
      exact wp_iret dX7_entry_27 rfl (by have e : rEntry g a k i = _ := (if_pos c4).trans (if_neg c11); rw [e] at hQ; exact hQ)
    · refine wp_iload_n dX7_entry_14 rfl ?_
      refine wp_i2l dX7_entry_15 (by first | assumption | exact hR _ | exact hR2 _ | exact bI_r _ | (unfold r32; omega)) ?_
      refine wp_lconst (z := 0) dX7_entry_16 rfl ?_
      refine wp_ldc2 dX7_entry_17 cX7_92 ?_
      refine wp_is3 dX7_entry_20 SX7_in lX7_94 (rq0 rfl rfl) (Nat.le_of_ble_eq_true rfl) (C_in (by first | assumption | (unfold r64 r32 at *; omega)) (by first | assumption | (unfold r64 r32 at *; omega)) (by first | assumption | (unfold r64 r32 at *; omega)) ?_)
      dsimp only [pushR]
      refine wp_bne 28 dX7_entry_23 rfl (fun c23 => ?_) (fun c23 => ?_)
      · refine wp_iload_n dX7_entry_28 rfl ?_
        refine wp_iload_n dX7_entry_29 rfl ?_
        refine wp_is2 dX7_entry_30 SX7_entryAt lX7_112 (rq0 rfl rfl) (Nat.le_of_ble_eq_true rfl) (C_entryAt ?_)
        dsimp only [pushR]
        refine wp_istore (L' := [some (vR p), some (vI a), some (vI k), some (vI i), some (vI (eA a k))]) dX7_entry_33 (by decide) rfl ?_
        refine wp_aload_n dX7_entry_35 rfl ?_
        refine wp_iload dX7_entry_36 rfl ?_
        refine sa_i1 hS dX7_entry_38 VX7_isThere lX7_115 (rq0 rfl rfl) (Nat.le_of_ble_eq_true rfl) (C_isThere (v0 := g 0) (v1 := g (eA a k)) hS (by first | omega | (unfold eA; omega) | (unfold oA; omega) | (unfold lA; omega) | (unfold dA; omega) | (unfold hA; omega)) rfl rfl (by first | assumption | exact hR _ | exact hR2 _ | exact bI_r _ | (unfold r32; omega)) (by first | assumption | exact hR _ | exact hR2 _ | exact bI_r _ | (unfold r32; omega)) ?_)
        dsimp only [pushR]
        refine wp_bne 47 dX7_entry_41 rfl (fun c41 => ?_) (fun c41 => ?_)
        · refine wp_iload_n dX7_entry_47 rfl ?_
          refine wp_iconst dX7_entry_48 ?_
          refine wp_icmp_ne 62 dX7_entry_49 rfl (by first | assumption | exact hR _ | exact hR2 _ | exact bI_r _ | (unfold r32; omega)) ⟨by omega, by omega⟩ (fun c49 => ?_) (fun c49 => ?_)
          · refine wp_aload_n dX7_entry_62 rfl ?_
            refine sa_get hS dX7_entry_63 fX7_9 ?_
            refine wp_iload dX7_entry_66 rfl ?_
            refine wp_iconst dX7_entry_68 ?_
            refine wp_iadd dX7_entry_69 ?_
            refine wp_iload_n dX7_entry_70 rfl ?_
            refine wp_iadd dX7_entry_71 ?_
            refine sa_ld (v := g (eA a k + 1 + i)) hS dX7_entry_72 (by decide) (by first | omega | (unfold eA; omega) | (unfold oA; omega) | (unfold lA; omega) | (unfold dA; omega) | (unfold hA; omega)) rfl ?_
            exact wp_iret dX7_entry_73 rfl (by have e : rEntry g a k i = _ := (if_pos c4).trans ((if_pos c11).trans ((if_pos c23).trans ((if_pos c41).trans (if_neg c49)))); rw [e] at hQ; exact hQ)
          · refine wp_aload_n dX7_entry_52 rfl ?_
            refine sa_get hS dX7_entry_53 fX7_9 ?_
            refine wp_iload dX7_entry_56 rfl ?_
            refine sa_ld (v := g (eA a k)) hS dX7_entry_58 (by decide) (by first | omega | (unfold eA; omega) | (unfold oA; omega) | (unfold lA; omega) | (unfold dA; omega) | (unfold hA; omega)) rfl ?_
            refine wp_goto 73 dX7_entry_59 rfl ?_
            exact wp_iret dX7_entry_73 rfl (by have e : rEntry g a k i = _ := (if_pos c4).trans ((if_pos c11).trans ((if_pos c23).trans ((if_pos c41).trans (if_pos c49)))); rw [e] at hQ; exact hQ)
        · refine wp_bipush dX7_entry_44 rfl ?_
          exact wp_iret dX7_entry_46 rfl (by have e : rEntry g a k i = _ := (if_pos c4).trans ((if_pos c11).trans ((if_pos c23).trans (if_neg c41))); rw [e] at hQ; exact hQ)
      · refine wp_iconst dX7_entry_26 ?_
        exact wp_iret dX7_entry_27 rfl (by have e : rEntry g a k i = _ := (if_pos c4).trans ((if_pos c11).trans (if_neg c23)); rw [e] at hQ; exact hQ)
def rBeside (g : Int → Int) (a k i : Int) : Int := if 0 ≤ a ∧ a ≤ 5 then if 0 ≤ k ∧ k ≤ 9 then if 0 ≤ i ∧ i ≤ 5 then if 2 ≤ i then if 5 ≤ i then if g 0 < g (dA a k) then if i = 0 then g (dA a k + 1) else if i = 1 then g (dA a k) else if i = 2 then g (dA a k + 1) else if i = 3 then g (dA a k + 2) else g (dA a k) else (-2) else if g 0 < g (lA a k) then if i = 0 then g (lA a k + 1) else if i = 1 then g (lA a k) else if i = 2 then g (lA a k + 1) else if i = 3 then g (lA a k + 2) else g (lA a k) else (-2) else if g 0 < g (oA a k) then if i = 0 then g (oA a k + 1) else if i = 1 then g (oA a k) else if i = 2 then g (oA a k + 1) else if i = 3 then g (oA a k + 2) else g (oA a k) else (-2) else (-1) else (-1) else (-1)
set_option maxHeartbeats 2000000 in
theorem C_rbeside {a k i : Int} (hS : SA 7 p q h) (hI : IM B g) (hBB : B + 1000 ≤ 1000000000) (ra : r32 a) (rk : r32 k) (ri : r32 i)  (hQ : Q (some (vI (rBeside g a k i))) (h.set q (oI 1014 g))) : Cl X kX7_beside [vR p, vI a, vI k, vI i] (h.set q (oI 1014 g)) Q := by
  refine cl_of rfl (Nat.le_of_ble_eq_true rfl) rfl ?_
  have hR := hI.r (by omega)
  refine wp_iload_n dX7_beside_0 rfl ?_
  refine wp_is1 dX7_beside_1 SX7_isGroup lX7_187 (rq0 rfl rfl) (Nat.le_of_ble_eq_true rfl) (C_isGroup (by first | assumption | exact hR _ | exact hR2 _ | exact bI_r _ | (unfold r32; omega)) ?_)
  dsimp only [pushR]
  refine wp_beq 26 dX7_beside_4 rfl (fun c4 => ?_) (fun c4 => ?_)
  · refine wp_iconst dX7_beside_26 ?_
    exact wp_iret dX7_beside_27 rfl (by have e : rBeside g a k i = _ := if_neg c4; rw [e] at hQ; exact hQ)
  · refine wp_iload_n dX7_beside_7 rfl ?_
    refine wp_is1 dX7_beside_8 SX7_isKey lX7_158 (rq0 rfl rfl) (Nat.le_of_ble_eq_true rfl) (C_isKey (by first | assumption | exact hR _ | exact hR2 _ | exact bI_r _ | (unfold r32; omega)) ?_)
    dsimp only [pushR]
    refine wp_beq 26 dX7_beside_11 rfl (fun c11 => ?_) (fun c11 => ?_)
    · refine wp_iconst dX7_beside_26 ?_
      exact wp_iret dX7_beside_27 rfl (by have e : rBeside g a k i = _ := (if_pos c4).trans (if_neg c11); rw [e] at hQ; exact hQ)
    · refine wp_iload_n dX7_beside_14 rfl ?_
      refine wp_i2l dX7_beside_15 (by first | assumption | exact hR _ | exact hR2 _ | exact bI_r _ | (unfold r32; omega)) ?_
      refine wp_lconst (z := 0) dX7_beside_16 rfl ?_
      refine wp_ldc2 dX7_beside_17 cX7_92 ?_
      refine wp_is3 dX7_beside_20 SX7_in lX7_94 (rq0 rfl rfl) (Nat.le_of_ble_eq_true rfl) (C_in (by first | assumption | (unfold r64 r32 at *; omega)) (by first | assumption | (unfold r64 r32 at *; omega)) (by first | assumption | (unfold r64 r32 at *; omega)) ?_)
      dsimp only [pushR]
      refine wp_bne 28 dX7_beside_23 rfl (fun c23 => ?_) (fun c23 => ?_)
      · refine wp_iload_n dX7_beside_28 rfl ?_
        refine wp_iconst dX7_beside_29 ?_
        refine wp_icmp_ge 41 dX7_beside_30 rfl (by first | assumption | exact hR _ | exact hR2 _ | exact bI_r _ | (unfold r32; omega)) ⟨by omega, by omega⟩ (fun c30 => ?_) (fun c30 => ?_)
        · refine wp_iload_n dX7_beside_41 rfl ?_
          refine wp_iconst dX7_beside_42 ?_
          refine wp_icmp_ge 54 dX7_beside_43 rfl (by first | assumption | exact hR _ | exact hR2 _ | exact bI_r _ | (unfold r32; omega)) ⟨by omega, by omega⟩ (fun c43 => ?_) (fun c43 => ?_)
          · refine wp_iload_n dX7_beside_54 rfl ?_
            refine wp_iload_n dX7_beside_55 rfl ?_
            refine wp_is2 dX7_beside_56 SX7_holdAt lX7_137 (rq0 rfl rfl) (Nat.le_of_ble_eq_true rfl) (C_holdAt ?_)
            dsimp only [pushR]
            refine wp_istore (L' := [some (vR p), some (vI a), some (vI k), some (vI i), some (vI (dA a k))]) dX7_beside_59 (by decide) rfl ?_
            refine wp_aload_n dX7_beside_61 rfl ?_
            refine wp_iload dX7_beside_62 rfl ?_
            refine sa_i1 hS dX7_beside_64 VX7_isThere lX7_115 (rq0 rfl rfl) (Nat.le_of_ble_eq_true rfl) (C_isThere (v0 := g 0) (v1 := g (dA a k)) hS (by first | omega | (unfold eA; omega) | (unfold oA; omega) | (unfold lA; omega) | (unfold dA; omega) | (unfold hA; omega)) rfl rfl (by first | assumption | exact hR _ | exact hR2 _ | exact bI_r _ | (unfold r32; omega)) (by first | assumption | exact hR _ | exact hR2 _ | exact bI_r _ | (unfold r32; omega)) ?_)
            dsimp only [pushR]
            refine wp_bne 73 dX7_beside_67 rfl (fun c67 => ?_) (fun c67 => ?_)
            · refine wp_iload_n dX7_beside_73 rfl ?_
              rcases Decidable.em (i = 0) with e74_0 | e74_0
              · refine wp_tableIn (off := 30) 104 dX7_beside_74 (by first | assumption | exact hR _ | exact hR2 _ | exact bI_r _ | (unfold r32; omega)) (by omega) (by omega) (by rw [e74_0]; rfl) rfl ?_
                refine wp_aload_n dX7_beside_104 rfl ?_
                refine sa_get hS dX7_beside_105 fX7_9 ?_
                refine wp_iload dX7_beside_108 rfl ?_
                refine wp_iconst dX7_beside_110 ?_
                refine wp_iadd dX7_beside_111 ?_
                refine sa_ld (v := g (dA a k + 1)) hS dX7_beside_112 (by decide) (by first | omega | (unfold eA; omega) | (unfold oA; omega) | (unfold lA; omega) | (unfold dA; omega) | (unfold hA; omega)) rfl ?_
                exact wp_iret dX7_beside_113 rfl (by have e : rBeside g a k i = _ := (if_pos c4).trans ((if_pos c11).trans ((if_pos c23).trans ((if_pos c30).trans ((if_pos c43).trans ((if_pos c67).trans (if_pos e74_0)))))); rw [e] at hQ; exact hQ)
              rcases Decidable.em (i = 1) with e74_1 | e74_1
              · refine wp_tableIn (off := 50) 124 dX7_beside_74 (by first | assumption | exact hR _ | exact hR2 _ | exact bI_r _ | (unfold r32; omega)) (by omega) (by omega) (by rw [e74_1]; rfl) rfl ?_
                refine wp_aload_n dX7_beside_124 rfl ?_
                refine sa_get hS dX7_beside_125 fX7_9 ?_
                refine wp_iload dX7_beside_128 rfl ?_
                refine sa_ld (v := g (dA a k)) hS dX7_beside_130 (by decide) (by first | omega | (unfold eA; omega) | (unfold oA; omega) | (unfold lA; omega) | (unfold dA; omega) | (unfold hA; omega)) rfl ?_
                exact wp_iret dX7_beside_131 rfl (by have e : rBeside g a k i = _ := (if_pos c4).trans ((if_pos c11).trans ((if_pos c23).trans ((if_pos c30).trans ((if_pos c43).trans ((if_pos c67).trans ((if_neg e74_0).trans (if_pos e74_1))))))); rw [e] at hQ; exact hQ)
              rcases Decidable.em (i = 2) with e74_2 | e74_2
              · refine wp_tableIn (off := 30) 104 dX7_beside_74 (by first | assumption | exact hR _ | exact hR2 _ | exact bI_r _ | (unfold r32; omega)) (by omega) (by omega) (by rw [e74_2]; rfl) rfl ?_
                refine wp_aload_n dX7_beside_104 rfl ?_
                refine sa_get hS dX7_beside_105 fX7_9 ?_
                refine wp_iload dX7_beside_108 rfl ?_
                refine wp_iconst dX7_beside_110 ?_
                refine wp_iadd dX7_beside_111 ?_
                refine sa_ld (v := g (dA a k + 1)) hS dX7_beside_112 (by decide) (by first | omega | (unfold eA; omega) | (unfold oA; omega) | (unfold lA; omega) | (unfold dA; omega) | (unfold hA; omega)) rfl ?_
                exact wp_iret dX7_beside_113 rfl (by have e : rBeside g a k i = _ := (if_pos c4).trans ((if_pos c11).trans ((if_pos c23).trans ((if_pos c30).trans ((if_pos c43).trans ((if_pos c67).trans ((if_neg e74_0).trans ((if_neg e74_1).trans (if_pos e74_2)))))))); rw [e] at hQ; exact hQ)
              rcases Decidable.em (i = 3) with e74_3 | e74_3
              · refine wp_tableIn (off := 40) 114 dX7_beside_74 (by first | assumption | exact hR _ | exact hR2 _ | exact bI_r _ | (unfold r32; omega)) (by omega) (by omega) (by rw [e74_3]; rfl) rfl ?_
                refine wp_aload_n dX7_beside_114 rfl ?_
                refine sa_get hS dX7_beside_115 fX7_9 ?_
                refine wp_iload dX7_beside_118 rfl ?_
                refine wp_iconst dX7_beside_120 ?_
                refine wp_iadd dX7_beside_121 ?_
                refine sa_ld (v := g (dA a k + 2)) hS dX7_beside_122 (by decide) (by first | omega | (unfold eA; omega) | (unfold oA; omega) | (unfold lA; omega) | (unfold dA; omega) | (unfold hA; omega)) rfl ?_
                exact wp_iret dX7_beside_123 rfl (by have e : rBeside g a k i = _ := (if_pos c4).trans ((if_pos c11).trans ((if_pos c23).trans ((if_pos c30).trans ((if_pos c43).trans ((if_pos c67).trans ((if_neg e74_0).trans ((if_neg e74_1).trans ((if_neg e74_2).trans (if_pos e74_3))))))))); rw [e] at hQ; exact hQ)
              refine wp_tableOut 124 dX7_beside_74 (by first | assumption | exact hR _ | exact hR2 _ | exact bI_r _ | (unfold r32; omega)) (by omega) rfl ?_
              refine wp_aload_n dX7_beside_124 rfl ?_
              refine sa_get hS dX7_beside_125 fX7_9 ?_
              refine wp_iload dX7_beside_128 rfl ?_
              refine sa_ld (v := g (dA a k)) hS dX7_beside_130 (by decide) (by first | omega | (unfold eA; omega) | (unfold oA; omega) | (unfold lA; omega) | (unfold dA; omega) | (unfold hA; omega)) rfl ?_
              exact wp_iret dX7_beside_131 rfl (by have e : rBeside g a k i = _ := (if_pos c4).trans ((if_pos c11).trans ((if_pos c23).trans ((if_pos c30).trans ((if_pos c43).trans ((if_pos c67).trans ((if_neg e74_0).trans ((if_neg e74_1).trans ((if_neg e74_2).trans (if_neg e74_3))))))))); rw [e] at hQ; exact hQ)
            · refine wp_bipush dX7_beside_70 rfl ?_
              exact wp_iret dX7_beside_72 rfl (by have e : rBeside g a k i = _ := (if_pos c4).trans ((if_pos c11).trans ((if_pos c23).trans ((if_pos c30).trans ((if_pos c43).trans (if_neg c67))))); rw [e] at hQ; exact hQ)
          · refine wp_iload_n dX7_beside_46 rfl ?_
            refine wp_iload_n dX7_beside_47 rfl ?_
            refine wp_is2 dX7_beside_48 SX7_leaseAt lX7_119 (rq0 rfl rfl) (Nat.le_of_ble_eq_true rfl) (C_leaseAt ?_)
            dsimp only [pushR]
            refine wp_goto 59 dX7_beside_51 rfl ?_
            refine wp_istore (L' := [some (vR p), some (vI a), some (vI k), some (vI i), some (vI (lA a k))]) dX7_beside_59 (by decide) rfl ?_
            refine wp_aload_n dX7_beside_61 rfl ?_
            refine wp_iload dX7_beside_62 rfl ?_
            refine sa_i1 hS dX7_beside_64 VX7_isThere lX7_115 (rq0 rfl rfl) (Nat.le_of_ble_eq_true rfl) (C_isThere (v0 := g 0) (v1 := g (lA a k)) hS (by first | omega | (unfold eA; omega) | (unfold oA; omega) | (unfold lA; omega) | (unfold dA; omega) | (unfold hA; omega)) rfl rfl (by first | assumption | exact hR _ | exact hR2 _ | exact bI_r _ | (unfold r32; omega)) (by first | assumption | exact hR _ | exact hR2 _ | exact bI_r _ | (unfold r32; omega)) ?_)
            dsimp only [pushR]
            refine wp_bne 73 dX7_beside_67 rfl (fun c67 => ?_) (fun c67 => ?_)
            · refine wp_iload_n dX7_beside_73 rfl ?_
              rcases Decidable.em (i = 0) with e74_0 | e74_0
              · refine wp_tableIn (off := 30) 104 dX7_beside_74 (by first | assumption | exact hR _ | exact hR2 _ | exact bI_r _ | (unfold r32; omega)) (by omega) (by omega) (by rw [e74_0]; rfl) rfl ?_
                refine wp_aload_n dX7_beside_104 rfl ?_
                refine sa_get hS dX7_beside_105 fX7_9 ?_
                refine wp_iload dX7_beside_108 rfl ?_
                refine wp_iconst dX7_beside_110 ?_
                refine wp_iadd dX7_beside_111 ?_
                refine sa_ld (v := g (lA a k + 1)) hS dX7_beside_112 (by decide) (by first | omega | (unfold eA; omega) | (unfold oA; omega) | (unfold lA; omega) | (unfold dA; omega) | (unfold hA; omega)) rfl ?_
                exact wp_iret dX7_beside_113 rfl (by have e : rBeside g a k i = _ := (if_pos c4).trans ((if_pos c11).trans ((if_pos c23).trans ((if_pos c30).trans ((if_neg c43).trans ((if_pos c67).trans (if_pos e74_0)))))); rw [e] at hQ; exact hQ)
              rcases Decidable.em (i = 1) with e74_1 | e74_1
              · refine wp_tableIn (off := 50) 124 dX7_beside_74 (by first | assumption | exact hR _ | exact hR2 _ | exact bI_r _ | (unfold r32; omega)) (by omega) (by omega) (by rw [e74_1]; rfl) rfl ?_
                refine wp_aload_n dX7_beside_124 rfl ?_
                refine sa_get hS dX7_beside_125 fX7_9 ?_
                refine wp_iload dX7_beside_128 rfl ?_
                refine sa_ld (v := g (lA a k)) hS dX7_beside_130 (by decide) (by first | omega | (unfold eA; omega) | (unfold oA; omega) | (unfold lA; omega) | (unfold dA; omega) | (unfold hA; omega)) rfl ?_
                exact wp_iret dX7_beside_131 rfl (by have e : rBeside g a k i = _ := (if_pos c4).trans ((if_pos c11).trans ((if_pos c23).trans ((if_pos c30).trans ((if_neg c43).trans ((if_pos c67).trans ((if_neg e74_0).trans (if_pos e74_1))))))); rw [e] at hQ; exact hQ)
              rcases Decidable.em (i = 2) with e74_2 | e74_2
              · refine wp_tableIn (off := 30) 104 dX7_beside_74 (by first | assumption | exact hR _ | exact hR2 _ | exact bI_r _ | (unfold r32; omega)) (by omega) (by omega) (by rw [e74_2]; rfl) rfl ?_
                refine wp_aload_n dX7_beside_104 rfl ?_
                refine sa_get hS dX7_beside_105 fX7_9 ?_
                refine wp_iload dX7_beside_108 rfl ?_
                refine wp_iconst dX7_beside_110 ?_
                refine wp_iadd dX7_beside_111 ?_
                refine sa_ld (v := g (lA a k + 1)) hS dX7_beside_112 (by decide) (by first | omega | (unfold eA; omega) | (unfold oA; omega) | (unfold lA; omega) | (unfold dA; omega) | (unfold hA; omega)) rfl ?_
                exact wp_iret dX7_beside_113 rfl (by have e : rBeside g a k i = _ := (if_pos c4).trans ((if_pos c11).trans ((if_pos c23).trans ((if_pos c30).trans ((if_neg c43).trans ((if_pos c67).trans ((if_neg e74_0).trans ((if_neg e74_1).trans (if_pos e74_2)))))))); rw [e] at hQ; exact hQ)
              rcases Decidable.em (i = 3) with e74_3 | e74_3
              · refine wp_tableIn (off := 40) 114 dX7_beside_74 (by first | assumption | exact hR _ | exact hR2 _ | exact bI_r _ | (unfold r32; omega)) (by omega) (by omega) (by rw [e74_3]; rfl) rfl ?_
                refine wp_aload_n dX7_beside_114 rfl ?_
                refine sa_get hS dX7_beside_115 fX7_9 ?_
                refine wp_iload dX7_beside_118 rfl ?_
                refine wp_iconst dX7_beside_120 ?_
                refine wp_iadd dX7_beside_121 ?_
                refine sa_ld (v := g (lA a k + 2)) hS dX7_beside_122 (by decide) (by first | omega | (unfold eA; omega) | (unfold oA; omega) | (unfold lA; omega) | (unfold dA; omega) | (unfold hA; omega)) rfl ?_
                exact wp_iret dX7_beside_123 rfl (by have e : rBeside g a k i = _ := (if_pos c4).trans ((if_pos c11).trans ((if_pos c23).trans ((if_pos c30).trans ((if_neg c43).trans ((if_pos c67).trans ((if_neg e74_0).trans ((if_neg e74_1).trans ((if_neg e74_2).trans (if_pos e74_3))))))))); rw [e] at hQ; exact hQ)
              refine wp_tableOut 124 dX7_beside_74 (by first | assumption | exact hR _ | exact hR2 _ | exact bI_r _ | (unfold r32; omega)) (by omega) rfl ?_
              refine wp_aload_n dX7_beside_124 rfl ?_
              refine sa_get hS dX7_beside_125 fX7_9 ?_
              refine wp_iload dX7_beside_128 rfl ?_
              refine sa_ld (v := g (lA a k)) hS dX7_beside_130 (by decide) (by first | omega | (unfold eA; omega) | (unfold oA; omega) | (unfold lA; omega) | (unfold dA; omega) | (unfold hA; omega)) rfl ?_
              exact wp_iret dX7_beside_131 rfl (by have e : rBeside g a k i = _ := (if_pos c4).trans ((if_pos c11).trans ((if_pos c23).trans ((if_pos c30).trans ((if_neg c43).trans ((if_pos c67).trans ((if_neg e74_0).trans ((if_neg e74_1).trans ((if_neg e74_2).trans (if_neg e74_3))))))))); rw [e] at hQ; exact hQ)
            · refine wp_bipush dX7_beside_70 rfl ?_
              exact wp_iret dX7_beside_72 rfl (by have e : rBeside g a k i = _ := (if_pos c4).trans ((if_pos c11).trans ((if_pos c23).trans ((if_pos c30).trans ((if_neg c43).trans (if_neg c67))))); rw [e] at hQ; exact hQ)
        · refine wp_iload_n dX7_beside_33 rfl ?_
          refine wp_iload_n dX7_beside_34 rfl ?_
          refine wp_is2 dX7_beside_35 SX7_oldAt lX7_122 (rq0 rfl rfl) (Nat.le_of_ble_eq_true rfl) (C_oldAt ?_)
          dsimp only [pushR]
          refine wp_goto 59 dX7_beside_38 rfl ?_
          refine wp_istore (L' := [some (vR p), some (vI a), some (vI k), some (vI i), some (vI (oA a k))]) dX7_beside_59 (by decide) rfl ?_
          refine wp_aload_n dX7_beside_61 rfl ?_
          refine wp_iload dX7_beside_62 rfl ?_
          refine sa_i1 hS dX7_beside_64 VX7_isThere lX7_115 (rq0 rfl rfl) (Nat.le_of_ble_eq_true rfl) (C_isThere (v0 := g 0) (v1 := g (oA a k)) hS (by first | omega | (unfold eA; omega) | (unfold oA; omega) | (unfold lA; omega) | (unfold dA; omega) | (unfold hA; omega)) rfl rfl (by first | assumption | exact hR _ | exact hR2 _ | exact bI_r _ | (unfold r32; omega)) (by first | assumption | exact hR _ | exact hR2 _ | exact bI_r _ | (unfold r32; omega)) ?_)
          dsimp only [pushR]
          refine wp_bne 73 dX7_beside_67 rfl (fun c67 => ?_) (fun c67 => ?_)
          · refine wp_iload_n dX7_beside_73 rfl ?_
            rcases Decidable.em (i = 0) with e74_0 | e74_0
            · refine wp_tableIn (off := 30) 104 dX7_beside_74 (by first | assumption | exact hR _ | exact hR2 _ | exact bI_r _ | (unfold r32; omega)) (by omega) (by omega) (by rw [e74_0]; rfl) rfl ?_
              refine wp_aload_n dX7_beside_104 rfl ?_
              refine sa_get hS dX7_beside_105 fX7_9 ?_
              refine wp_iload dX7_beside_108 rfl ?_
              refine wp_iconst dX7_beside_110 ?_
              refine wp_iadd dX7_beside_111 ?_
              refine sa_ld (v := g (oA a k + 1)) hS dX7_beside_112 (by decide) (by first | omega | (unfold eA; omega) | (unfold oA; omega) | (unfold lA; omega) | (unfold dA; omega) | (unfold hA; omega)) rfl ?_
              exact wp_iret dX7_beside_113 rfl (by have e : rBeside g a k i = _ := (if_pos c4).trans ((if_pos c11).trans ((if_pos c23).trans ((if_neg c30).trans ((if_pos c67).trans (if_pos e74_0))))); rw [e] at hQ; exact hQ)
            rcases Decidable.em (i = 1) with e74_1 | e74_1
            · refine wp_tableIn (off := 50) 124 dX7_beside_74 (by first | assumption | exact hR _ | exact hR2 _ | exact bI_r _ | (unfold r32; omega)) (by omega) (by omega) (by rw [e74_1]; rfl) rfl ?_
              refine wp_aload_n dX7_beside_124 rfl ?_
              refine sa_get hS dX7_beside_125 fX7_9 ?_
              refine wp_iload dX7_beside_128 rfl ?_
              refine sa_ld (v := g (oA a k)) hS dX7_beside_130 (by decide) (by first | omega | (unfold eA; omega) | (unfold oA; omega) | (unfold lA; omega) | (unfold dA; omega) | (unfold hA; omega)) rfl ?_
              exact wp_iret dX7_beside_131 rfl (by have e : rBeside g a k i = _ := (if_pos c4).trans ((if_pos c11).trans ((if_pos c23).trans ((if_neg c30).trans ((if_pos c67).trans ((if_neg e74_0).trans (if_pos e74_1)))))); rw [e] at hQ; exact hQ)
            rcases Decidable.em (i = 2) with e74_2 | e74_2
            · refine wp_tableIn (off := 30) 104 dX7_beside_74 (by first | assumption | exact hR _ | exact hR2 _ | exact bI_r _ | (unfold r32; omega)) (by omega) (by omega) (by rw [e74_2]; rfl) rfl ?_
              refine wp_aload_n dX7_beside_104 rfl ?_
              refine sa_get hS dX7_beside_105 fX7_9 ?_
              refine wp_iload dX7_beside_108 rfl ?_
              refine wp_iconst dX7_beside_110 ?_
              refine wp_iadd dX7_beside_111 ?_
              refine sa_ld (v := g (oA a k + 1)) hS dX7_beside_112 (by decide) (by first | omega | (unfold eA; omega) | (unfold oA; omega) | (unfold lA; omega) | (unfold dA; omega) | (unfold hA; omega)) rfl ?_
              exact wp_iret dX7_beside_113 rfl (by have e : rBeside g a k i = _ := (if_pos c4).trans ((if_pos c11).trans ((if_pos c23).trans ((if_neg c30).trans ((if_pos c67).trans ((if_neg e74_0).trans ((if_neg e74_1).trans (if_pos e74_2))))))); rw [e] at hQ; exact hQ)
            rcases Decidable.em (i = 3) with e74_3 | e74_3
            · refine wp_tableIn (off := 40) 114 dX7_beside_74 (by first | assumption | exact hR _ | exact hR2 _ | exact bI_r _ | (unfold r32; omega)) (by omega) (by omega) (by rw [e74_3]; rfl) rfl ?_
              refine wp_aload_n dX7_beside_114 rfl ?_
              refine sa_get hS dX7_beside_115 fX7_9 ?_
              refine wp_iload dX7_beside_118 rfl ?_
              refine wp_iconst dX7_beside_120 ?_
              refine wp_iadd dX7_beside_121 ?_
              refine sa_ld (v := g (oA a k + 2)) hS dX7_beside_122 (by decide) (by first | omega | (unfold eA; omega) | (unfold oA; omega) | (unfold lA; omega) | (unfold dA; omega) | (unfold hA; omega)) rfl ?_
              exact wp_iret dX7_beside_123 rfl (by have e : rBeside g a k i = _ := (if_pos c4).trans ((if_pos c11).trans ((if_pos c23).trans ((if_neg c30).trans ((if_pos c67).trans ((if_neg e74_0).trans ((if_neg e74_1).trans ((if_neg e74_2).trans (if_pos e74_3)))))))); rw [e] at hQ; exact hQ)
            refine wp_tableOut 124 dX7_beside_74 (by first | assumption | exact hR _ | exact hR2 _ | exact bI_r _ | (unfold r32; omega)) (by omega) rfl ?_
            refine wp_aload_n dX7_beside_124 rfl ?_
            refine sa_get hS dX7_beside_125 fX7_9 ?_
            refine wp_iload dX7_beside_128 rfl ?_
            refine sa_ld (v := g (oA a k)) hS dX7_beside_130 (by decide) (by first | omega | (unfold eA; omega) | (unfold oA; omega) | (unfold lA; omega) | (unfold dA; omega) | (unfold hA; omega)) rfl ?_
            exact wp_iret dX7_beside_131 rfl (by have e : rBeside g a k i = _ := (if_pos c4).trans ((if_pos c11).trans ((if_pos c23).trans ((if_neg c30).trans ((if_pos c67).trans ((if_neg e74_0).trans ((if_neg e74_1).trans ((if_neg e74_2).trans (if_neg e74_3)))))))); rw [e] at hQ; exact hQ)
          · refine wp_bipush dX7_beside_70 rfl ?_
            exact wp_iret dX7_beside_72 rfl (by have e : rBeside g a k i = _ := (if_pos c4).trans ((if_pos c11).trans ((if_pos c23).trans ((if_neg c30).trans (if_neg c67)))); rw [e] at hQ; exact hQ)
      · refine wp_iconst dX7_beside_26 ?_
        exact wp_iret dX7_beside_27 rfl (by have e : rBeside g a k i = _ := (if_pos c4).trans ((if_pos c11).trans (if_neg c23)); rw [e] at hQ; exact hQ)
def rClient (g : Int → Int) (c i : Int) : Int := if 0 ≤ c ∧ c ≤ 5 then if 0 ≤ i ∧ i ≤ 6 then if i ≤ 0 then if i ≤ 3 then g (hA c + i) else if g (hA c + 3) = 0 then (-2) else g (hA c + i) else if g (hA c + 1) = (-1) then (-2) else if i ≤ 3 then g (hA c + i) else if g (hA c + 3) = 0 then (-2) else g (hA c + i) else (-1) else (-1)
set_option maxHeartbeats 2000000 in
theorem C_rclient {c i : Int} (hS : SA 7 p q h) (hI : IM B g) (hBB : B + 1000 ≤ 1000000000) (rc : r32 c) (ri : r32 i)  (hQ : Q (some (vI (rClient g c i))) (h.set q (oI 1014 g))) : Cl X kX7_client [vR p, vI c, vI i] (h.set q (oI 1014 g)) Q := by
  refine cl_of rfl (Nat.le_of_ble_eq_true rfl) rfl ?_
  have hR := hI.r (by omega)
  refine wp_iload_n dX7_client_0 rfl ?_
  refine wp_is1 dX7_client_1 SX7_isClient lX7_155 (rq0 rfl rfl) (Nat.le_of_ble_eq_true rfl) (C_isClient (by first | assumption | exact hR _ | exact hR2 _ | exact bI_r _ | (unfold r32; omega)) ?_)
  dsimp only [pushR]
  refine wp_beq 19 dX7_client_4 rfl (fun c4 => ?_) (fun c4 => ?_)
  · refine wp_iconst dX7_client_19 ?_
    exact wp_iret dX7_client_20 rfl (by have e : rClient g c i = _ := if_neg c4; rw [e] at hQ; exact hQ)
  · refine wp_iload_n dX7_client_7 rfl ?_
    refine wp_i2l dX7_client_8 (by first | assumption | exact hR _ | exact hR2 _ | exact bI_r _ | (unfold r32; omega)) ?_
    refine wp_lconst (z := 0) dX7_client_9 rfl ?_
    refine wp_ldc2 dX7_client_10 cX7_193 ?_
    refine wp_is3 dX7_client_13 SX7_in lX7_94 (rq0 rfl rfl) (Nat.le_of_ble_eq_true rfl) (C_in (by first | assumption | (unfold r64 r32 at *; omega)) (by first | assumption | (unfold r64 r32 at *; omega)) (by first | assumption | (unfold r64 r32 at *; omega)) ?_)
    dsimp only [pushR]
    refine wp_bne 21 dX7_client_16 rfl (fun c16 => ?_) (fun c16 => ?_)
    · refine wp_iload_n dX7_client_21 rfl ?_
      refine wp_is1 dX7_client_22 SX7_hand lX7_82 (rq0 rfl rfl) (Nat.le_of_ble_eq_true rfl) (C_hand ?_)
      dsimp only [pushR]
      refine wp_istore_n (L' := [some (vR p), some (vI c), some (vI i), some (vI (hA c))]) dX7_client_25 (by decide) rfl ?_
      refine wp_iload_n dX7_client_26 rfl ?_
      refine wp_if_le 42 dX7_client_27 rfl (by first | assumption | exact hR _ | exact hR2 _ | exact bI_r _ | (unfold r32; omega)) (fun c27 => ?_) (fun c27 => ?_)
      · refine wp_iload_n dX7_client_42 rfl ?_
        refine wp_iconst dX7_client_43 ?_
        refine wp_icmp_le 61 dX7_client_44 rfl (by first | assumption | exact hR _ | exact hR2 _ | exact bI_r _ | (unfold r32; omega)) ⟨by omega, by omega⟩ (fun c44 => ?_) (fun c44 => ?_)
        · refine wp_aload_n dX7_client_61 rfl ?_
          refine sa_get hS dX7_client_62 fX7_9 ?_
          refine wp_iload_n dX7_client_65 rfl ?_
          refine wp_iload_n dX7_client_66 rfl ?_
          refine wp_iadd dX7_client_67 ?_
          refine sa_ld (v := g (hA c + i)) hS dX7_client_68 (by decide) (by first | omega | (unfold eA; omega) | (unfold oA; omega) | (unfold lA; omega) | (unfold dA; omega) | (unfold hA; omega)) rfl ?_
          exact wp_iret dX7_client_69 rfl (by have e : rClient g c i = _ := (if_pos c4).trans ((if_pos c16).trans ((if_pos c27).trans (if_pos c44))); rw [e] at hQ; exact hQ)
        · refine wp_aload_n dX7_client_47 rfl ?_
          refine sa_get hS dX7_client_48 fX7_9 ?_
          refine wp_iload_n dX7_client_51 rfl ?_
          refine wp_iconst dX7_client_52 ?_
          refine wp_iadd dX7_client_53 ?_
          refine sa_ld (v := g (hA c + 3)) hS dX7_client_54 (by decide) (by first | omega | (unfold eA; omega) | (unfold oA; omega) | (unfold lA; omega) | (unfold dA; omega) | (unfold hA; omega)) rfl ?_
          refine wp_if_ne 61 dX7_client_55 rfl (by first | assumption | exact hR _ | exact hR2 _ | exact bI_r _ | (unfold r32; omega)) (fun c55 => ?_) (fun c55 => ?_)
          · refine wp_aload_n dX7_client_61 rfl ?_
            refine sa_get hS dX7_client_62 fX7_9 ?_
            refine wp_iload_n dX7_client_65 rfl ?_
            refine wp_iload_n dX7_client_66 rfl ?_
            refine wp_iadd dX7_client_67 ?_
            refine sa_ld (v := g (hA c + i)) hS dX7_client_68 (by decide) (by first | omega | (unfold eA; omega) | (unfold oA; omega) | (unfold lA; omega) | (unfold dA; omega) | (unfold hA; omega)) rfl ?_
            exact wp_iret dX7_client_69 rfl (by have e : rClient g c i = _ := (if_pos c4).trans ((if_pos c16).trans ((if_pos c27).trans ((if_neg c44).trans (if_neg c55)))); rw [e] at hQ; exact hQ)
          · refine wp_bipush dX7_client_58 rfl ?_
            exact wp_iret dX7_client_60 rfl (by have e : rClient g c i = _ := (if_pos c4).trans ((if_pos c16).trans ((if_pos c27).trans ((if_neg c44).trans (if_pos c55)))); rw [e] at hQ; exact hQ)
      · refine wp_aload_n dX7_client_30 rfl ?_
        refine sa_get hS dX7_client_31 fX7_9 ?_
        refine wp_iload_n dX7_client_34 rfl ?_
        refine wp_iconst dX7_client_35 ?_
        refine wp_iadd dX7_client_36 ?_
        refine sa_ld (v := g (hA c + 1)) hS dX7_client_37 (by decide) (by first | omega | (unfold eA; omega) | (unfold oA; omega) | (unfold lA; omega) | (unfold dA; omega) | (unfold hA; omega)) rfl ?_
        refine wp_iconst dX7_client_38 ?_
        refine wp_icmp_eq 58 dX7_client_39 rfl (by first | assumption | exact hR _ | exact hR2 _ | exact bI_r _ | (unfold r32; omega)) ⟨by omega, by omega⟩ (fun c39 => ?_) (fun c39 => ?_)
        · refine wp_bipush dX7_client_58 rfl ?_
          exact wp_iret dX7_client_60 rfl (by have e : rClient g c i = _ := (if_pos c4).trans ((if_pos c16).trans ((if_neg c27).trans (if_pos c39))); rw [e] at hQ; exact hQ)
        · refine wp_iload_n dX7_client_42 rfl ?_
          refine wp_iconst dX7_client_43 ?_
          refine wp_icmp_le 61 dX7_client_44 rfl (by first | assumption | exact hR _ | exact hR2 _ | exact bI_r _ | (unfold r32; omega)) ⟨by omega, by omega⟩ (fun c44 => ?_) (fun c44 => ?_)
          · refine wp_aload_n dX7_client_61 rfl ?_
            refine sa_get hS dX7_client_62 fX7_9 ?_
            refine wp_iload_n dX7_client_65 rfl ?_
            refine wp_iload_n dX7_client_66 rfl ?_
            refine wp_iadd dX7_client_67 ?_
            refine sa_ld (v := g (hA c + i)) hS dX7_client_68 (by decide) (by first | omega | (unfold eA; omega) | (unfold oA; omega) | (unfold lA; omega) | (unfold dA; omega) | (unfold hA; omega)) rfl ?_
            exact wp_iret dX7_client_69 rfl (by have e : rClient g c i = _ := (if_pos c4).trans ((if_pos c16).trans ((if_neg c27).trans ((if_neg c39).trans (if_pos c44)))); rw [e] at hQ; exact hQ)
          · refine wp_aload_n dX7_client_47 rfl ?_
            refine sa_get hS dX7_client_48 fX7_9 ?_
            refine wp_iload_n dX7_client_51 rfl ?_
            refine wp_iconst dX7_client_52 ?_
            refine wp_iadd dX7_client_53 ?_
            refine sa_ld (v := g (hA c + 3)) hS dX7_client_54 (by decide) (by first | omega | (unfold eA; omega) | (unfold oA; omega) | (unfold lA; omega) | (unfold dA; omega) | (unfold hA; omega)) rfl ?_
            refine wp_if_ne 61 dX7_client_55 rfl (by first | assumption | exact hR _ | exact hR2 _ | exact bI_r _ | (unfold r32; omega)) (fun c55 => ?_) (fun c55 => ?_)
            · refine wp_aload_n dX7_client_61 rfl ?_
              refine sa_get hS dX7_client_62 fX7_9 ?_
              refine wp_iload_n dX7_client_65 rfl ?_
              refine wp_iload_n dX7_client_66 rfl ?_
              refine wp_iadd dX7_client_67 ?_
              refine sa_ld (v := g (hA c + i)) hS dX7_client_68 (by decide) (by first | omega | (unfold eA; omega) | (unfold oA; omega) | (unfold lA; omega) | (unfold dA; omega) | (unfold hA; omega)) rfl ?_
              exact wp_iret dX7_client_69 rfl (by have e : rClient g c i = _ := (if_pos c4).trans ((if_pos c16).trans ((if_neg c27).trans ((if_neg c39).trans ((if_neg c44).trans (if_neg c55))))); rw [e] at hQ; exact hQ)
            · refine wp_bipush dX7_client_58 rfl ?_
              exact wp_iret dX7_client_60 rfl (by have e : rClient g c i = _ := (if_pos c4).trans ((if_pos c16).trans ((if_neg c27).trans ((if_neg c39).trans ((if_neg c44).trans (if_pos c55))))); rw [e] at hQ; exact hQ)
    · refine wp_iconst dX7_client_19 ?_
      exact wp_iret dX7_client_20 rfl (by have e : rClient g c i = _ := (if_pos c4).trans (if_neg c16); rw [e] at hQ; exact hQ)
def rStore (g : Int → Int) (r k i : Int) : Int := if 0 ≤ r ∧ r ≤ 2 then if 0 ≤ k ∧ k ≤ 9 then if 0 ≤ i ∧ i ≤ 2 then if i = 2 then if g (942 + 10 * r + k) ≤ 0 then (-2) else g (942 + 10 * r + k) else if i = 0 then valO g (svO g r k) else svO g r k else (-1) else (-1) else (-1)
set_option maxHeartbeats 2000000 in
theorem C_rstore {r k i : Int} (hS : SA 7 p q h) (hI : IM B g) (hBB : B + 1000 ≤ 1000000000) (rr : r32 r) (rk : r32 k) (ri : r32 i)  (hQ : Q (some (vI (rStore g r k i))) (h.set q (oI 1014 g))) : Cl X kX7_store [vR p, vI r, vI k, vI i] (h.set q (oI 1014 g)) Q := by
  refine cl_of rfl (Nat.le_of_ble_eq_true rfl) rfl ?_
  have hR := hI.r (by omega)
  refine wp_iload_n dX7_store_0 rfl ?_
  refine wp_is1 dX7_store_1 SX7_isRegion lX7_179 (rq0 rfl rfl) (Nat.le_of_ble_eq_true rfl) (C_isRegion (by first | assumption | exact hR _ | exact hR2 _ | exact bI_r _ | (unfold r32; omega)) ?_)
  dsimp only [pushR]
  refine wp_beq 26 dX7_store_4 rfl (fun c4 => ?_) (fun c4 => ?_)
  · refine wp_iconst dX7_store_26 ?_
    exact wp_iret dX7_store_27 rfl (by have e : rStore g r k i = _ := if_neg c4; rw [e] at hQ; exact hQ)
  · refine wp_iload_n dX7_store_7 rfl ?_
    refine wp_is1 dX7_store_8 SX7_isKey lX7_158 (rq0 rfl rfl) (Nat.le_of_ble_eq_true rfl) (C_isKey (by first | assumption | exact hR _ | exact hR2 _ | exact bI_r _ | (unfold r32; omega)) ?_)
    dsimp only [pushR]
    refine wp_beq 26 dX7_store_11 rfl (fun c11 => ?_) (fun c11 => ?_)
    · refine wp_iconst dX7_store_26 ?_
      exact wp_iret dX7_store_27 rfl (by have e : rStore g r k i = _ := (if_pos c4).trans (if_neg c11); rw [e] at hQ; exact hQ)
    · refine wp_iload_n dX7_store_14 rfl ?_
      refine wp_i2l dX7_store_15 (by first | assumption | exact hR _ | exact hR2 _ | exact bI_r _ | (unfold r32; omega)) ?_
      refine wp_lconst (z := 0) dX7_store_16 rfl ?_
      refine wp_ldc2 dX7_store_17 cX7_100 ?_
      refine wp_is3 dX7_store_20 SX7_in lX7_94 (rq0 rfl rfl) (Nat.le_of_ble_eq_true rfl) (C_in (by first | assumption | (unfold r64 r32 at *; omega)) (by first | assumption | (unfold r64 r32 at *; omega)) (by first | assumption | (unfold r64 r32 at *; omega)) ?_)
      dsimp only [pushR]
      refine wp_bne 28 dX7_store_23 rfl (fun c23 => ?_) (fun c23 => ?_)
      · refine wp_iload_n dX7_store_28 rfl ?_
        refine wp_iconst dX7_store_29 ?_
        refine wp_icmp_ne 72 dX7_store_30 rfl (by first | assumption | exact hR _ | exact hR2 _ | exact bI_r _ | (unfold r32; omega)) ⟨by omega, by omega⟩ (fun c30 => ?_) (fun c30 => ?_)
        · refine wp_aload_n dX7_store_72 rfl ?_
          refine wp_iload_n dX7_store_73 rfl ?_
          refine wp_iload_n dX7_store_74 rfl ?_
          refine sa_i2 hS dX7_store_75 VX7_storeVersion lX7_125 (rq0 rfl rfl) (Nat.le_of_ble_eq_true rfl) (C_storeVersion hS hR (by omega) (by first | assumption | exact hR _ | exact hR2 _ | exact bI_r _ | (unfold r32; omega)) (hI.n60 (by omega)) (hI.n60 (by omega)) ?_)
          dsimp only [pushR]
          refine wp_istore (L' := [some (vR p), some (vI r), some (vI k), some (vI i), some (vI (svO g r k))]) dX7_store_78 (by decide) rfl ?_
          refine wp_iload_n dX7_store_80 rfl ?_
          refine wp_if_ne 93 dX7_store_81 rfl (by first | assumption | exact hR _ | exact hR2 _ | exact bI_r _ | (unfold r32; omega)) (fun c81 => ?_) (fun c81 => ?_)
          · refine wp_iload dX7_store_93 rfl ?_
            exact wp_iret dX7_store_95 rfl (by have e : rStore g r k i = _ := (if_pos c4).trans ((if_pos c11).trans ((if_pos c23).trans ((if_neg c30).trans (if_neg c81)))); rw [e] at hQ; exact hQ)
          · refine wp_aload_n dX7_store_84 rfl ?_
            refine wp_iload dX7_store_85 rfl ?_
            refine sa_i1 hS dX7_store_87 VX7_valueOf lX7_128 (rq0 rfl rfl) (Nat.le_of_ble_eq_true rfl) (C_valueOf hS (svO_b (hI.n60 (by omega)) (hI.n60 (by omega))) ?_)
            dsimp only [pushR]
            refine wp_goto 95 dX7_store_90 rfl ?_
            exact wp_iret dX7_store_95 rfl (by have e : rStore g r k i = _ := (if_pos c4).trans ((if_pos c11).trans ((if_pos c23).trans ((if_neg c30).trans (if_pos c81)))); rw [e] at hQ; exact hQ)
        · refine wp_aload_n dX7_store_33 rfl ?_
          refine sa_get hS dX7_store_34 fX7_9 ?_
          refine wp_sipush dX7_store_37 rfl ?_
          refine wp_bipush dX7_store_40 rfl ?_
          refine wp_iload_n dX7_store_42 rfl ?_
          refine wp_imul dX7_store_43 ?_
          refine wp_iadd dX7_store_44 ?_
          refine wp_iload_n dX7_store_45 rfl ?_
          refine wp_iadd dX7_store_46 ?_
          refine sa_ld (v := g (942 + 10 * r + k)) hS dX7_store_47 (by decide) (by first | omega | (unfold eA; omega) | (unfold oA; omega) | (unfold lA; omega) | (unfold dA; omega) | (unfold hA; omega)) rfl ?_
          refine wp_if_le 69 dX7_store_48 rfl (by first | assumption | exact hR _ | exact hR2 _ | exact bI_r _ | (unfold r32; omega)) (fun c48 => ?_) (fun c48 => ?_)
          · refine wp_bipush dX7_store_69 rfl ?_
            exact wp_iret dX7_store_71 rfl (by have e : rStore g r k i = _ := (if_pos c4).trans ((if_pos c11).trans ((if_pos c23).trans ((if_pos c30).trans (if_pos c48)))); rw [e] at hQ; exact hQ)
          · refine wp_aload_n dX7_store_51 rfl ?_
            refine sa_get hS dX7_store_52 fX7_9 ?_
            refine wp_sipush dX7_store_55 rfl ?_
            refine wp_bipush dX7_store_58 rfl ?_
            refine wp_iload_n dX7_store_60 rfl ?_
            refine wp_imul dX7_store_61 ?_
            refine wp_iadd dX7_store_62 ?_
            refine wp_iload_n dX7_store_63 rfl ?_
            refine wp_iadd dX7_store_64 ?_
            refine sa_ld (v := g (942 + 10 * r + k)) hS dX7_store_65 (by decide) (by first | omega | (unfold eA; omega) | (unfold oA; omega) | (unfold lA; omega) | (unfold dA; omega) | (unfold hA; omega)) rfl ?_
            refine wp_goto 71 dX7_store_66 rfl ?_
            exact wp_iret dX7_store_71 rfl (by have e : rStore g r k i = _ := (if_pos c4).trans ((if_pos c11).trans ((if_pos c23).trans ((if_pos c30).trans (if_neg c48)))); rw [e] at hQ; exact hQ)
      · refine wp_iconst dX7_store_26 ?_
        exact wp_iret dX7_store_27 rfl (by have e : rStore g r k i = _ := (if_pos c4).trans ((if_pos c11).trans (if_neg c23)); rw [e] at hQ; exact hQ)
def rRegion (g : Int → Int) (r i : Int) : Int := if 0 ≤ r ∧ r ≤ 2 then if 0 ≤ i ∧ i ≤ 2 then if i = 0 then g (10 + r) else if i = 1 then g 2 - g (10 + r) else g (13 + r) else (-1) else (-1)
set_option maxHeartbeats 2000000 in
theorem C_rregion {r i : Int} (hS : SA 7 p q h) (hI : IM B g) (hBB : B + 1000 ≤ 1000000000) (rr : r32 r) (ri : r32 i)  (hQ : Q (some (vI (rRegion g r i))) (h.set q (oI 1014 g))) : Cl X kX7_region [vR p, vI r, vI i] (h.set q (oI 1014 g)) Q := by
  refine cl_of rfl (Nat.le_of_ble_eq_true rfl) rfl ?_
  have hR := hI.r (by omega)
  refine wp_iload_n dX7_region_0 rfl ?_
  refine wp_is1 dX7_region_1 SX7_isRegion lX7_179 (rq0 rfl rfl) (Nat.le_of_ble_eq_true rfl) (C_isRegion (by first | assumption | exact hR _ | exact hR2 _ | exact bI_r _ | (unfold r32; omega)) ?_)
  dsimp only [pushR]
  refine wp_beq 19 dX7_region_4 rfl (fun c4 => ?_) (fun c4 => ?_)
  · refine wp_iconst dX7_region_19 ?_
    exact wp_iret dX7_region_20 rfl (by have e : rRegion g r i = _ := if_neg c4; rw [e] at hQ; exact hQ)
  · refine wp_iload_n dX7_region_7 rfl ?_
    refine wp_i2l dX7_region_8 (by first | assumption | exact hR _ | exact hR2 _ | exact bI_r _ | (unfold r32; omega)) ?_
    refine wp_lconst (z := 0) dX7_region_9 rfl ?_
    refine wp_ldc2 dX7_region_10 cX7_100 ?_
    refine wp_is3 dX7_region_13 SX7_in lX7_94 (rq0 rfl rfl) (Nat.le_of_ble_eq_true rfl) (C_in (by first | assumption | (unfold r64 r32 at *; omega)) (by first | assumption | (unfold r64 r32 at *; omega)) (by first | assumption | (unfold r64 r32 at *; omega)) ?_)
    dsimp only [pushR]
    refine wp_bne 21 dX7_region_16 rfl (fun c16 => ?_) (fun c16 => ?_)
    · refine wp_iload_n dX7_region_21 rfl ?_
      refine wp_if_ne 37 dX7_region_22 rfl (by first | assumption | exact hR _ | exact hR2 _ | exact bI_r _ | (unfold r32; omega)) (fun c22 => ?_) (fun c22 => ?_)
      · refine wp_iload_n dX7_region_37 rfl ?_
        refine wp_iconst dX7_region_38 ?_
        refine wp_icmp_ne 61 dX7_region_39 rfl (by first | assumption | exact hR _ | exact hR2 _ | exact bI_r _ | (unfold r32; omega)) ⟨by omega, by omega⟩ (fun c39 => ?_) (fun c39 => ?_)
        · refine wp_aload_n dX7_region_61 rfl ?_
          refine sa_get hS dX7_region_62 fX7_9 ?_
          refine wp_bipush dX7_region_65 rfl ?_
          refine wp_iload_n dX7_region_67 rfl ?_
          refine wp_iadd dX7_region_68 ?_
          refine sa_ld (v := g (13 + r)) hS dX7_region_69 (by decide) (by first | omega | (unfold eA; omega) | (unfold oA; omega) | (unfold lA; omega) | (unfold dA; omega) | (unfold hA; omega)) rfl ?_
          exact wp_iret dX7_region_70 rfl (by have e : rRegion g r i = _ := (if_pos c4).trans ((if_pos c16).trans ((if_neg c22).trans (if_neg c39))); rw [e] at hQ; exact hQ)
        · refine wp_aload_n dX7_region_42 rfl ?_
          refine sa_get hS dX7_region_43 fX7_9 ?_
          refine wp_iconst dX7_region_46 ?_
          refine sa_ld (v := g 2) hS dX7_region_47 (by decide) (by first | omega | (unfold eA; omega) | (unfold oA; omega) | (unfold lA; omega) | (unfold dA; omega) | (unfold hA; omega)) rfl ?_
          refine wp_aload_n dX7_region_48 rfl ?_
          refine sa_get hS dX7_region_49 fX7_9 ?_
          refine wp_bipush dX7_region_52 rfl ?_
          refine wp_iload_n dX7_region_54 rfl ?_
          refine wp_iadd dX7_region_55 ?_
          refine sa_ld (v := g (10 + r)) hS dX7_region_56 (by decide) (by first | omega | (unfold eA; omega) | (unfold oA; omega) | (unfold lA; omega) | (unfold dA; omega) | (unfold hA; omega)) rfl ?_
          refine wp_isub dX7_region_57 ?_
          refine wp_goto 70 dX7_region_58 rfl ?_
          exact wp_iret dX7_region_70 rfl (by have e : rRegion g r i = _ := (if_pos c4).trans ((if_pos c16).trans ((if_neg c22).trans (if_pos c39))); rw [e] at hQ; exact hQ)
      · refine wp_aload_n dX7_region_25 rfl ?_
        refine sa_get hS dX7_region_26 fX7_9 ?_
        refine wp_bipush dX7_region_29 rfl ?_
        refine wp_iload_n dX7_region_31 rfl ?_
        refine wp_iadd dX7_region_32 ?_
        refine sa_ld (v := g (10 + r)) hS dX7_region_33 (by decide) (by first | omega | (unfold eA; omega) | (unfold oA; omega) | (unfold lA; omega) | (unfold dA; omega) | (unfold hA; omega)) rfl ?_
        refine wp_goto 70 dX7_region_34 rfl ?_
        exact wp_iret dX7_region_70 rfl (by have e : rRegion g r i = _ := (if_pos c4).trans ((if_pos c16).trans (if_pos c22)); rw [e] at hQ; exact hQ)
    · refine wp_iconst dX7_region_19 ?_
      exact wp_iret dX7_region_20 rfl (by have e : rRegion g r i = _ := (if_pos c4).trans (if_neg c16); rw [e] at hQ; exact hQ)
def rWithin (g : Int → Int) (k n i : Int) : Int := if 0 ≤ k ∧ k ≤ 9 then if 0 ≤ n ∧ n ≤ (g 2) then if 0 ≤ i ∧ i ≤ 1 then if i = 0 then valO g (lastI g k n) else lastI g k n else (-1) else (-1) else (-1)
set_option maxHeartbeats 2000000 in
theorem C_rwithin {k n i : Int} (hS : SA 7 p q h) (hI : IM B g) (hBB : B + 1000 ≤ 1000000000) (rk : r32 k) (rn : r32 n) (ri : r32 i)  (hQ : Q (some (vI (rWithin g k n i))) (h.set q (oI 1014 g))) : Cl X kX7_within [vR p, vI k, vI n, vI i] (h.set q (oI 1014 g)) Q := by
  refine cl_of rfl (Nat.le_of_ble_eq_true rfl) rfl ?_
  have hR := hI.r (by omega)
  have q2 := hI.n60 (j := 2) (by omega)
  refine wp_iload_n dX7_within_0 rfl ?_
  refine wp_is1 dX7_within_1 SX7_isKey lX7_158 (rq0 rfl rfl) (Nat.le_of_ble_eq_true rfl) (C_isKey (by first | assumption | exact hR _ | exact hR2 _ | exact bI_r _ | (unfold r32; omega)) ?_)
  dsimp only [pushR]
  refine wp_beq 33 dX7_within_4 rfl (fun c4 => ?_) (fun c4 => ?_)
  · refine wp_iconst dX7_within_33 ?_
    exact wp_iret dX7_within_34 rfl (by have e : rWithin g k n i = _ := if_neg c4; rw [e] at hQ; exact hQ)
  · refine wp_iload_n dX7_within_7 rfl ?_
    refine wp_i2l dX7_within_8 (by first | assumption | exact hR _ | exact hR2 _ | exact bI_r _ | (unfold r32; omega)) ?_
    refine wp_lconst (z := 0) dX7_within_9 rfl ?_
    refine wp_aload_n dX7_within_10 rfl ?_
    refine sa_get hS dX7_within_11 fX7_9 ?_
    refine wp_iconst dX7_within_14 ?_
    refine sa_ld (v := g 2) hS dX7_within_15 (by decide) (by first | omega | (unfold eA; omega) | (unfold oA; omega) | (unfold lA; omega) | (unfold dA; omega) | (unfold hA; omega)) rfl ?_
    refine wp_i2l dX7_within_16 (by first | assumption | exact hR _ | exact hR2 _ | exact bI_r _ | (unfold r32; omega)) ?_
    refine wp_is3 dX7_within_17 SX7_in lX7_94 (rq0 rfl rfl) (Nat.le_of_ble_eq_true rfl) (C_in (by first | assumption | (unfold r64 r32 at *; omega)) (by first | assumption | (unfold r64 r32 at *; omega)) (by first | assumption | (unfold r64 r32 at *; omega)) ?_)
    dsimp only [pushR]
    refine wp_beq 33 dX7_within_20 rfl (fun c20 => ?_) (fun c20 => ?_)
    · refine wp_iconst dX7_within_33 ?_
      exact wp_iret dX7_within_34 rfl (by have e : rWithin g k n i = _ := (if_pos c4).trans (if_neg c20); rw [e] at hQ; exact hQ)
    · refine wp_iload_n dX7_within_23 rfl ?_
      refine wp_i2l dX7_within_24 (by first | assumption | exact hR _ | exact hR2 _ | exact bI_r _ | (unfold r32; omega)) ?_
      refine wp_lconst (z := 0) dX7_within_25 rfl ?_
      refine wp_lconst (z := 1) dX7_within_26 rfl ?_
      refine wp_is3 dX7_within_27 SX7_in lX7_94 (rq0 rfl rfl) (Nat.le_of_ble_eq_true rfl) (C_in (by first | assumption | (unfold r64 r32 at *; omega)) (by first | assumption | (unfold r64 r32 at *; omega)) (by first | assumption | (unfold r64 r32 at *; omega)) ?_)
      dsimp only [pushR]
      refine wp_bne 35 dX7_within_30 rfl (fun c30 => ?_) (fun c30 => ?_)
      · refine wp_aload_n dX7_within_35 rfl ?_
        refine wp_iload_n dX7_within_36 rfl ?_
        refine wp_iload_n dX7_within_37 rfl ?_
        refine sa_i2 hS dX7_within_38 VX7_lastOf lX7_105 (rq0 rfl rfl) (Nat.le_of_ble_eq_true rfl) (C_lastOf hS hR (by first | assumption | exact hR _ | exact hR2 _ | exact bI_r _ | (unfold r32; omega)) (by first | omega | exact hI.n60 (by omega)) ?_)
        dsimp only [pushR]
        refine wp_istore (L' := [some (vR p), some (vI k), some (vI n), some (vI i), some (vI (lastI g k n))]) dX7_within_41 (by decide) rfl ?_
        refine wp_iload_n dX7_within_43 rfl ?_
        refine wp_if_ne 56 dX7_within_44 rfl (by first | assumption | exact hR _ | exact hR2 _ | exact bI_r _ | (unfold r32; omega)) (fun c44 => ?_) (fun c44 => ?_)
        · refine wp_iload dX7_within_56 rfl ?_
          exact wp_iret dX7_within_58 rfl (by have e : rWithin g k n i = _ := (if_pos c4).trans ((if_pos c20).trans ((if_pos c30).trans (if_neg c44))); rw [e] at hQ; exact hQ)
        · refine wp_aload_n dX7_within_47 rfl ?_
          refine wp_iload dX7_within_48 rfl ?_
          refine sa_i1 hS dX7_within_50 VX7_valueOf lX7_128 (rq0 rfl rfl) (Nat.le_of_ble_eq_true rfl) (C_valueOf hS (by have := lastI_le (g := g) (k := k) (n := n) (by omega); omega) ?_)
          dsimp only [pushR]
          refine wp_goto 58 dX7_within_53 rfl ?_
          exact wp_iret dX7_within_58 rfl (by have e : rWithin g k n i = _ := (if_pos c4).trans ((if_pos c20).trans ((if_pos c30).trans (if_pos c44))); rw [e] at hQ; exact hQ)
      · refine wp_iconst dX7_within_33 ?_
        exact wp_iret dX7_within_34 rfl (by have e : rWithin g k n i = _ := (if_pos c4).trans ((if_pos c20).trans (if_neg c30)); rw [e] at hQ; exact hQ)
theorem leastO_r (g : Int → Int) (a t : Int) : r32 (leastO g a t) := by
  rcases leastL_in (g := g) (a := a) (y := polB t) 10 0 (-1) with e | e <;> unfold leastO r32 <;> omega
def rLeast (g : Int → Int) (a t : Int) : Int := if 0 ≤ a ∧ a ≤ 5 then if 0 ≤ t ∧ t ≤ 3 then if leastO g a t = (-1) then (-2) else leastO g a t else (-1) else (-1)
set_option maxHeartbeats 2000000 in
theorem C_rleast {a t : Int} (hS : SA 7 p q h) (hI : IM B g) (hBB : B + 1000 ≤ 1000000000) (ra : r32 a) (rt : r32 t)  (hQ : Q (some (vI (rLeast g a t))) (h.set q (oI 1014 g))) : Cl X kX7_least [vR p, vI a, vI t] (h.set q (oI 1014 g)) Q := by
  refine cl_of rfl (Nat.le_of_ble_eq_true rfl) rfl ?_
  have hR := hI.r (by omega)
  refine wp_iload_n dX7_least_0 rfl ?_
  refine wp_is1 dX7_least_1 SX7_isGroup lX7_187 (rq0 rfl rfl) (Nat.le_of_ble_eq_true rfl) (C_isGroup (by first | assumption | exact hR _ | exact hR2 _ | exact bI_r _ | (unfold r32; omega)) ?_)
  dsimp only [pushR]
  refine wp_beq 19 dX7_least_4 rfl (fun c4 => ?_) (fun c4 => ?_)
  · refine wp_iconst dX7_least_19 ?_
    exact wp_iret dX7_least_20 rfl (by have e : rLeast g a t = _ := if_neg c4; rw [e] at hQ; exact hQ)
  · refine wp_iload_n dX7_least_7 rfl ?_
    refine wp_i2l dX7_least_8 (by first | assumption | exact hR _ | exact hR2 _ | exact bI_r _ | (unfold r32; omega)) ?_
    refine wp_lconst (z := 0) dX7_least_9 rfl ?_
    refine wp_ldc2 dX7_least_10 cX7_195 ?_
    refine wp_is3 dX7_least_13 SX7_in lX7_94 (rq0 rfl rfl) (Nat.le_of_ble_eq_true rfl) (C_in (by first | assumption | (unfold r64 r32 at *; omega)) (by first | assumption | (unfold r64 r32 at *; omega)) (by first | assumption | (unfold r64 r32 at *; omega)) ?_)
    dsimp only [pushR]
    refine wp_bne 21 dX7_least_16 rfl (fun c16 => ?_) (fun c16 => ?_)
    · refine wp_aload_n dX7_least_21 rfl ?_
      refine wp_iload_n dX7_least_22 rfl ?_
      refine wp_iload_n dX7_least_23 rfl ?_
      refine sa_i2 hS dX7_least_24 VX7_leastIn lX7_134 (rq0 rfl rfl) (Nat.le_of_ble_eq_true rfl) (C_leastIn hS hR (by omega) (by first | assumption | exact hR _ | exact hR2 _ | exact bI_r _ | (unfold r32; omega)) ?_)
      dsimp only [pushR]
      refine wp_istore_n (L' := [some (vR p), some (vI a), some (vI t), some (vI (leastO g a t))]) dX7_least_27 (by decide) rfl ?_
      refine wp_iload_n dX7_least_28 rfl ?_
      refine wp_iconst dX7_least_29 ?_
      refine wp_icmp_ne 38 dX7_least_30 rfl (leastO_r _ _ _) ⟨by omega, by omega⟩ (fun c30 => ?_) (fun c30 => ?_)
      · refine wp_iload_n dX7_least_38 rfl ?_
        exact wp_iret dX7_least_39 rfl (by have e : rLeast g a t = _ := (if_pos c4).trans ((if_pos c16).trans (if_neg c30)); rw [e] at hQ; exact hQ)
      · refine wp_bipush dX7_least_33 rfl ?_
        refine wp_goto 39 dX7_least_35 rfl ?_
        exact wp_iret dX7_least_39 rfl (by have e : rLeast g a t = _ := (if_pos c4).trans ((if_pos c16).trans (if_pos c30)); rw [e] at hQ; exact hQ)
    · refine wp_iconst dX7_least_19 ?_
      exact wp_iret dX7_least_20 rfl (by have e : rLeast g a t = _ := (if_pos c4).trans (if_neg c16); rw [e] at hQ; exact hQ)
def rLed (g : Int → Int) (i : Int) : Int := if 0 ≤ i ∧ i ≤ 9 then g (16 + i) else (-1)
set_option maxHeartbeats 2000000 in
theorem C_rled {i : Int} (hS : SA 7 p q h) (hI : IM B g) (hBB : B + 1000 ≤ 1000000000) (ri : r32 i)  (hQ : Q (some (vI (rLed g i))) (h.set q (oI 1014 g))) : Cl X kX7_led [vR p, vI i] (h.set q (oI 1014 g)) Q := by
  refine cl_of rfl (Nat.le_of_ble_eq_true rfl) rfl ?_
  have hR := hI.r (by omega)
  refine wp_iload_n dX7_led_0 rfl ?_
  refine wp_i2l dX7_led_1 (by first | assumption | exact hR _ | exact hR2 _ | exact bI_r _ | (unfold r32; omega)) ?_
  refine wp_lconst (z := 0) dX7_led_2 rfl ?_
  refine wp_ldc2 dX7_led_3 cX7_98 ?_
  refine wp_is3 dX7_led_6 SX7_in lX7_94 (rq0 rfl rfl) (Nat.le_of_ble_eq_true rfl) (C_in (by first | assumption | (unfold r64 r32 at *; omega)) (by first | assumption | (unfold r64 r32 at *; omega)) (by first | assumption | (unfold r64 r32 at *; omega)) ?_)
  dsimp only [pushR]
  refine wp_beq 24 dX7_led_9 rfl (fun c9 => ?_) (fun c9 => ?_)
  · refine wp_iconst dX7_led_24 ?_
    exact wp_iret dX7_led_25 rfl (by have e : rLed g i = _ := if_neg c9; rw [e] at hQ; exact hQ)
  · refine wp_aload_n dX7_led_12 rfl ?_
    refine sa_get hS dX7_led_13 fX7_9 ?_
    refine wp_bipush dX7_led_16 rfl ?_
    refine wp_iload_n dX7_led_18 rfl ?_
    refine wp_iadd dX7_led_19 ?_
    refine sa_ld (v := g (16 + i)) hS dX7_led_20 (by decide) (by first | omega | (unfold eA; omega) | (unfold oA; omega) | (unfold lA; omega) | (unfold dA; omega) | (unfold hA; omega)) rfl ?_
    refine wp_goto 25 dX7_led_21 rfl ?_
    exact wp_iret dX7_led_25 rfl (by have e : rLed g i = _ := if_pos c9; rw [e] at hQ; exact hQ)
theorem C_isOutdated {a k : Int} (hS : SA 7 p q h) (hR : ∀ j, r32 (g j)) (hI : IM B g) (ha : 0 ≤ a ∧ a < 6) (hk : 0 ≤ k ∧ k < 10) (hQ : Q (some (vI (bI (g 0 < g (eA a k) ∧ g (eA a k + 2) < lastI g k (g (10 + a / 2)))))) (h.set q (oI 1014 g))) : Cl X kX7_isOutdated [vR p, vI a, vI k] (h.set q (oI 1014 g)) Q := by
  refine cl_of rfl (Nat.le_of_ble_eq_true rfl) rfl ?_
  have hp := hI.n60 (j := 10 + a / 2) (by omega)
  have hl := lastI_le (g := g) (k := k) hp.1
  have hb := eA_b ha hk
  refine wp_aload_n dX7_isOutdated_0 rfl ?_
  refine wp_iload_n dX7_isOutdated_1 rfl ?_
  refine wp_iload_n dX7_isOutdated_2 rfl ?_
  refine wp_is2 dX7_isOutdated_3 SX7_entryAt lX7_112 (rq0 rfl rfl) (Nat.le_of_ble_eq_true rfl) (C_entryAt ?_)
  dsimp only [pushR]
  refine sa_i1 hS dX7_isOutdated_6 VX7_isThere lX7_115 (rq0 rfl rfl) (Nat.le_of_ble_eq_true rfl) (C_isThere (v0 := g 0) (v1 := g (eA a k)) hS (by first | omega | (unfold eA; omega) | (unfold oA; omega) | (unfold lA; omega) | (unfold dA; omega) | (unfold hA; omega)) rfl rfl (by first | assumption | exact hR _ | exact hR2 _ | exact bI_r _ | (unfold r32; omega)) (by first | assumption | exact hR _ | exact hR2 _ | exact bI_r _ | (unfold r32; omega)) ?_)
  dsimp only [pushR]
  refine wp_beq 47 dX7_isOutdated_9 rfl (fun c9 => ?_) (fun c9 => ?_)
  · refine wp_iconst dX7_isOutdated_47 ?_
    exact wp_zret dX7_isOutdated_48 rfl (Or.inl rfl) (by first | (rw [bI_t (by omega)] at hQ; exact hQ) | (rw [bI_f (by omega)] at hQ; exact hQ))
  · refine wp_aload_n dX7_isOutdated_12 rfl ?_
    refine sa_get hS dX7_isOutdated_13 fX7_9 ?_
    refine wp_iload_n dX7_isOutdated_16 rfl ?_
    refine wp_iload_n dX7_isOutdated_17 rfl ?_
    refine wp_is2 dX7_isOutdated_18 SX7_entryAt lX7_112 (rq0 rfl rfl) (Nat.le_of_ble_eq_true rfl) (C_entryAt ?_)
    dsimp only [pushR]
    refine wp_iconst dX7_isOutdated_21 ?_
    refine wp_iadd dX7_isOutdated_22 ?_
    refine sa_ld (v := g (eA a k + 2)) hS dX7_isOutdated_23 (by decide) (by first | omega | (unfold eA; omega) | (unfold oA; omega) | (unfold lA; omega) | (unfold dA; omega) | (unfold hA; omega)) rfl ?_
    refine wp_aload_n dX7_isOutdated_24 rfl ?_
    refine wp_iload_n dX7_isOutdated_25 rfl ?_
    refine wp_aload_n dX7_isOutdated_26 rfl ?_
    refine sa_get hS dX7_isOutdated_27 fX7_9 ?_
    refine wp_bipush dX7_isOutdated_30 rfl ?_
    refine wp_iload_n dX7_isOutdated_32 rfl ?_
    refine wp_iconst dX7_isOutdated_33 ?_
    refine wp_idivn dX7_isOutdated_34 (by first | assumption | exact hR _ | exact hR2 _ | exact bI_r _ | (unfold r32; omega)) ⟨by omega, by omega⟩ (by omega) (by omega) ?_
    refine wp_iadd dX7_isOutdated_35 ?_
    refine sa_ld (v := g (10 + a / 2)) hS dX7_isOutdated_36 (by decide) (by first | omega | (unfold eA; omega) | (unfold oA; omega) | (unfold lA; omega) | (unfold dA; omega) | (unfold hA; omega)) rfl ?_
    refine sa_i2 hS dX7_isOutdated_37 VX7_lastOf lX7_105 (rq0 rfl rfl) (Nat.le_of_ble_eq_true rfl) (C_lastOf hS hR (by first | assumption | exact hR _ | exact hR2 _ | exact bI_r _ | (unfold r32; omega)) (by first | omega | exact hI.n60 (by omega)) ?_)
    dsimp only [pushR]
    refine wp_icmp_ge 47 dX7_isOutdated_40 rfl (by first | assumption | exact hR _ | exact hR2 _ | exact bI_r _ | (unfold r32; omega)) (by first | assumption | exact hR _ | exact hR2 _ | exact bI_r _ | (unfold r32; omega)) (fun c40 => ?_) (fun c40 => ?_)
    · refine wp_iconst dX7_isOutdated_47 ?_
      exact wp_zret dX7_isOutdated_48 rfl (Or.inl rfl) (by first | (rw [bI_t (by omega)] at hQ; exact hQ) | (rw [bI_f (by omega)] at hQ; exact hQ))
    · refine wp_iconst dX7_isOutdated_43 ?_
      refine wp_goto 48 dX7_isOutdated_44 rfl ?_
      exact wp_zret dX7_isOutdated_48 rfl (Or.inr rfl) (by first | (rw [bI_t (by omega)] at hQ; exact hQ) | (rw [bI_f (by omega)] at hQ; exact hQ))
def rOdL (g : Int → Int) (a : Int) : Nat → Int → Int → Int
  | 0, _, n => n
  | m + 1, k, n => if g 0 < g (eA a k) ∧ g (eA a k + 2) < lastI g k (g (10 + a / 2)) then rOdL g a m (k + 1) (n + pw k) else rOdL g a m (k + 1) n
set_option maxHeartbeats 2000000 in
theorem lp_rOdL {b : Nat × Nat} {a : Int} (hS : SA 7 p q h) (hR : ∀ j, r32 (g j)) (hI : IM B g) (ha : 0 ≤ a ∧ a < 6) : ∀ (m : Nat) (k n : Int), k + m = 10 → 0 ≤ k → (0 ≤ n ∧ n < pw k) → Q (some (vI (rOdL g a m k n))) (h.set q (oI 1014 g)) → Wp X kX7_outdated 13 [some (vR p), some (vI a), some (vI n), some (vI k)] [] (h.set q (oI 1014 g)) b Q := by
  intro m
  induction m with
  | zero =>
    intro k n h1 h3 h4 hQ
    obtain rfl : k = 10 := by omega
    refine wp_iload_n dX7_outdated_13 rfl ?_
    refine wp_bipush dX7_outdated_14 rfl ?_
    refine wp_icmp_ge 44 dX7_outdated_16 rfl (by first | assumption | exact hR _ | exact hR2 _ | exact bI_r _ | (unfold r32; omega)) ⟨by omega, by omega⟩ (fun c16 => ?_) (fun c16 => ?_)
    · refine wp_iload_n dX7_outdated_44 rfl ?_
      exact wp_iret dX7_outdated_45 rfl (by have e : rOdL g a 0 10 n = _ := rfl; rw [e] at hQ; exact hQ)
    · omega
  | succ m ih =>
    intro k n h1 h3 h4 hQ
    refine wp_iload_n dX7_outdated_13 rfl ?_
    refine wp_bipush dX7_outdated_14 rfl ?_
    refine wp_icmp_ge 44 dX7_outdated_16 rfl (by first | assumption | exact hR _ | exact hR2 _ | exact bI_r _ | (unfold r32; omega)) ⟨by omega, by omega⟩ (fun c16 => ?_) (fun c16 => ?_)
    · omega
    · refine wp_iload_n dX7_outdated_19 rfl ?_
      refine wp_aload_n dX7_outdated_20 rfl ?_
      refine wp_iload_n dX7_outdated_21 rfl ?_
      refine wp_iload_n dX7_outdated_22 rfl ?_
      refine sa_i2 hS dX7_outdated_23 VX7_isOutdated lX7_197 (rq0 rfl rfl) (Nat.le_of_ble_eq_true rfl) (C_isOutdated hS hR hI (by omega) (by omega) ?_)
      dsimp only [pushR]
      refine wp_beq 35 dX7_outdated_26 rfl (fun c26 => ?_) (fun c26 => ?_)
      · refine wp_iconst dX7_outdated_35 ?_
        refine wp_ior (z := n) dX7_outdated_36 (or_0 _) ?_
        refine wp_istore_n (L' := [some (vR p), some (vI a), some (vI n), some (vI k)]) dX7_outdated_37 (by decide) rfl ?_
        refine wp_iinc (L' := [some (vR p), some (vI a), some (vI n), some (vI (k + 1))]) dX7_outdated_38 rfl rfl ?_
        refine wp_goto 13 dX7_outdated_41 rfl ?_
        exact ih _ _ (by omega) (by omega) (by rw [pw_s h3]; omega) (by have e : rOdL g a (m + 1) k n = _ := if_neg c26; rw [e] at hQ; exact hQ)
      · refine wp_iconst dX7_outdated_29 ?_
        refine wp_iload_n dX7_outdated_30 rfl ?_
        refine wp_ishl (z := pw k) dX7_outdated_31 (sh_1 ⟨by omega, by omega⟩) ?_
        refine wp_goto 36 dX7_outdated_32 rfl ?_
        refine wp_ior (z := n + pw k) dX7_outdated_36 (or_1 ⟨by omega, by omega⟩ h4) ?_
        refine wp_istore_n (L' := [some (vR p), some (vI a), some (vI (n + pw k)), some (vI k)]) dX7_outdated_37 (by decide) rfl ?_
        refine wp_iinc (L' := [some (vR p), some (vI a), some (vI (n + pw k)), some (vI (k + 1))]) dX7_outdated_38 rfl rfl ?_
        refine wp_goto 13 dX7_outdated_41 rfl ?_
        exact ih _ _ (by omega) (by omega) (by rw [pw_s h3]; omega) (by have e : rOdL g a (m + 1) k n = _ := if_pos c26; rw [e] at hQ; exact hQ)
def rOutdated (g : Int → Int) (a : Int) : Int := if 0 ≤ a ∧ a ≤ 5 then rOdL g a 10 0 0 else (-1)
set_option maxHeartbeats 2000000 in
theorem C_routdated {a : Int} (hS : SA 7 p q h) (hI : IM B g) (hBB : B + 1000 ≤ 1000000000) (ra : r32 a)  (hQ : Q (some (vI (rOutdated g a))) (h.set q (oI 1014 g))) : Cl X kX7_outdated [vR p, vI a] (h.set q (oI 1014 g)) Q := by
  refine cl_of rfl (Nat.le_of_ble_eq_true rfl) rfl ?_
  have hR := hI.r (by omega)
  refine wp_iload_n dX7_outdated_0 rfl ?_
  refine wp_is1 dX7_outdated_1 SX7_isGroup lX7_187 (rq0 rfl rfl) (Nat.le_of_ble_eq_true rfl) (C_isGroup (by first | assumption | exact hR _ | exact hR2 _ | exact bI_r _ | (unfold r32; omega)) ?_)
  dsimp only [pushR]
  refine wp_bne 9 dX7_outdated_4 rfl (fun c4 => ?_) (fun c4 => ?_)
  · refine wp_iconst dX7_outdated_9 ?_
    refine wp_istore_n (L' := [some (vR p), some (vI a), some (vI 0), none]) dX7_outdated_10 (by decide) rfl ?_
    refine wp_iconst dX7_outdated_11 ?_
    refine wp_istore_n (L' := [some (vR p), some (vI a), some (vI 0), some (vI 0)]) dX7_outdated_12 (by decide) rfl ?_
    exact lp_rOdL hS hR hI (by omega) 10 0 0 (by omega) (by omega) ⟨by omega, by decide⟩ (by have e : rOutdated g a = _ := if_pos c4; rw [e] at hQ; exact hQ)
  · refine wp_iconst dX7_outdated_7 ?_
    exact wp_iret dX7_outdated_8 rfl (by have e : rOutdated g a = _ := if_neg c4; rw [e] at hQ; exact hQ)
def rLgL (g : Int → Int) (a k : Int) : Nat → Int → Int → Int
  | 0, _, y => y
  | m + 1, z, y => if g 2 < z then y else if g (36 + 3 * (z - 1)) = k then rLgL g a k m (z + 1) (y + 1) else rLgL g a k m (z + 1) (y + 0)
set_option maxHeartbeats 2000000 in
theorem lp_rLgL {b : Nat × Nat} {a k : Int} (hS : SA 7 p q h) (hR : ∀ j, r32 (g j)) (hI : IM B g) (rk : r32 k) : ∀ (m : Nat) (z y : Int), g 2 + 1 ≤ z + m → 0 ≤ z → (1 ≤ z) → (z ≤ 62) → Q (some (vI (rLgL g a k m z y))) (h.set q (oI 1014 g)) → Wp X kX7_lag 49 [some (vR p), some (vI a), some (vI k), some (vI y), some (vI z)] [] (h.set q (oI 1014 g)) b Q := by
  intro m
  induction m with
  | zero =>
    intro z y h1 h3 h4 h5 hQ
    have hw := hI.n60 (j := 2) (by omega)
    refine wp_iload dX7_lag_49 rfl ?_
    refine wp_aload_n dX7_lag_51 rfl ?_
    refine sa_get hS dX7_lag_52 fX7_9 ?_
    refine wp_iconst dX7_lag_55 ?_
    refine sa_ld (v := g 2) hS dX7_lag_56 (by decide) (by first | omega | (unfold eA; omega) | (unfold oA; omega) | (unfold lA; omega) | (unfold dA; omega) | (unfold hA; omega)) rfl ?_
    refine wp_icmp_gt 84 dX7_lag_57 rfl (by first | assumption | exact hR _ | exact hR2 _ | exact bI_r _ | (unfold r32; omega)) (by first | assumption | exact hR _ | exact hR2 _ | exact bI_r _ | (unfold r32; omega)) (fun c57 => ?_) (fun c57 => ?_)
    · refine wp_iload_n dX7_lag_84 rfl ?_
      exact wp_iret dX7_lag_85 rfl (by have e : rLgL g a k 0 z y = _ := rfl; rw [e] at hQ; exact hQ)
    · omega
  | succ m ih =>
    intro z y h1 h3 h4 h5 hQ
    have hw := hI.n60 (j := 2) (by omega)
    refine wp_iload dX7_lag_49 rfl ?_
    refine wp_aload_n dX7_lag_51 rfl ?_
    refine sa_get hS dX7_lag_52 fX7_9 ?_
    refine wp_iconst dX7_lag_55 ?_
    refine sa_ld (v := g 2) hS dX7_lag_56 (by decide) (by first | omega | (unfold eA; omega) | (unfold oA; omega) | (unfold lA; omega) | (unfold dA; omega) | (unfold hA; omega)) rfl ?_
    refine wp_icmp_gt 84 dX7_lag_57 rfl (by first | assumption | exact hR _ | exact hR2 _ | exact bI_r _ | (unfold r32; omega)) (by first | assumption | exact hR _ | exact hR2 _ | exact bI_r _ | (unfold r32; omega)) (fun c57 => ?_) (fun c57 => ?_)
    · refine wp_iload_n dX7_lag_84 rfl ?_
      exact wp_iret dX7_lag_85 rfl (by have e : rLgL g a k (m + 1) z y = _ := if_pos c57; rw [e] at hQ; exact hQ)
    · refine wp_iload_n dX7_lag_60 rfl ?_
      refine wp_aload_n dX7_lag_61 rfl ?_
      refine wp_iload dX7_lag_62 rfl ?_
      refine sa_i1 hS dX7_lag_64 VX7_keyOf lX7_102 (rq0 rfl rfl) (Nat.le_of_ble_eq_true rfl) (C_keyOf (v := g (36 + 3 * (z - 1))) hS (by omega) rfl ?_)
      dsimp only [pushR]
      refine wp_iload_n dX7_lag_67 rfl ?_
      refine wp_icmp_ne 75 dX7_lag_68 rfl (by first | assumption | exact hR _ | exact hR2 _ | exact bI_r _ | (unfold r32; omega)) (by first | assumption | exact hR _ | exact hR2 _ | exact bI_r _ | (unfold r32; omega)) (fun c68 => ?_) (fun c68 => ?_)
      · refine wp_iconst dX7_lag_75 ?_
        refine wp_iadd dX7_lag_76 ?_
        refine wp_istore_n (L' := [some (vR p), some (vI a), some (vI k), some (vI (y + 0)), some (vI z)]) dX7_lag_77 (by decide) rfl ?_
        refine wp_iinc (L' := [some (vR p), some (vI a), some (vI k), some (vI (y + 0)), some (vI (z + 1))]) dX7_lag_78 rfl rfl ?_
        refine wp_goto 49 dX7_lag_81 rfl ?_
        exact ih _ _ (by omega) (by omega) (by omega) (by omega) (by have e : rLgL g a k (m + 1) z y = _ := (if_neg c57).trans (if_neg c68); rw [e] at hQ; exact hQ)
      · refine wp_iconst dX7_lag_71 ?_
        refine wp_goto 76 dX7_lag_72 rfl ?_
        refine wp_iadd dX7_lag_76 ?_
        refine wp_istore_n (L' := [some (vR p), some (vI a), some (vI k), some (vI (y + 1)), some (vI z)]) dX7_lag_77 (by decide) rfl ?_
        refine wp_iinc (L' := [some (vR p), some (vI a), some (vI k), some (vI (y + 1)), some (vI (z + 1))]) dX7_lag_78 rfl rfl ?_
        refine wp_goto 49 dX7_lag_81 rfl ?_
        exact ih _ _ (by omega) (by omega) (by omega) (by omega) (by have e : rLgL g a k (m + 1) z y = _ := (if_neg c57).trans (if_pos c68); rw [e] at hQ; exact hQ)
def rLag (g : Int → Int) (a k : Int) : Int := if 0 ≤ a ∧ a ≤ 5 then if 0 ≤ k ∧ k ≤ 9 then if g 0 < g (eA a k) then rLgL g a k 60 (g (eA a k + 2) + 1) 0 else (-2) else (-1) else (-1)
set_option maxHeartbeats 2000000 in
theorem C_rlag {a k : Int} (hS : SA 7 p q h) (hI : IM B g) (hBB : B + 1000 ≤ 1000000000) (ra : r32 a) (rk : r32 k)  (hQ : Q (some (vI (rLag g a k))) (h.set q (oI 1014 g))) : Cl X kX7_lag [vR p, vI a, vI k] (h.set q (oI 1014 g)) Q := by
  refine cl_of rfl (Nat.le_of_ble_eq_true rfl) rfl ?_
  have hR := hI.r (by omega)
  have hw := hI.n60 (j := 2) (by omega)
  have he : ¬ ((0 ≤ a ∧ a < 6) ∧ 0 ≤ k ∧ k < 10) ∨ 0 ≤ g (eA a k + 2) ∧ g (eA a k + 2) ≤ 60 := (Decidable.em ((0 ≤ a ∧ a < 6) ∧ 0 ≤ k ∧ k < 10)).elim (fun q => Or.inr (hI.en q.1 q.2).2.2.1) Or.inl
  refine wp_iload_n dX7_lag_0 rfl ?_
  refine wp_is1 dX7_lag_1 SX7_isGroup lX7_187 (rq0 rfl rfl) (Nat.le_of_ble_eq_true rfl) (C_isGroup (by first | assumption | exact hR _ | exact hR2 _ | exact bI_r _ | (unfold r32; omega)) ?_)
  dsimp only [pushR]
  refine wp_beq 14 dX7_lag_4 rfl (fun c4 => ?_) (fun c4 => ?_)
  · refine wp_iconst dX7_lag_14 ?_
    exact wp_iret dX7_lag_15 rfl (by have e : rLag g a k = _ := if_neg c4; rw [e] at hQ; exact hQ)
  · refine wp_iload_n dX7_lag_7 rfl ?_
    refine wp_is1 dX7_lag_8 SX7_isKey lX7_158 (rq0 rfl rfl) (Nat.le_of_ble_eq_true rfl) (C_isKey (by first | assumption | exact hR _ | exact hR2 _ | exact bI_r _ | (unfold r32; omega)) ?_)
    dsimp only [pushR]
    refine wp_bne 16 dX7_lag_11 rfl (fun c11 => ?_) (fun c11 => ?_)
    · refine wp_aload_n dX7_lag_16 rfl ?_
      refine wp_iload_n dX7_lag_17 rfl ?_
      refine wp_iload_n dX7_lag_18 rfl ?_
      refine wp_is2 dX7_lag_19 SX7_entryAt lX7_112 (rq0 rfl rfl) (Nat.le_of_ble_eq_true rfl) (C_entryAt ?_)
      dsimp only [pushR]
      refine sa_i1 hS dX7_lag_22 VX7_isThere lX7_115 (rq0 rfl rfl) (Nat.le_of_ble_eq_true rfl) (C_isThere (v0 := g 0) (v1 := g (eA a k)) hS (by first | omega | (unfold eA; omega) | (unfold oA; omega) | (unfold lA; omega) | (unfold dA; omega) | (unfold hA; omega)) rfl rfl (by first | assumption | exact hR _ | exact hR2 _ | exact bI_r _ | (unfold r32; omega)) (by first | assumption | exact hR _ | exact hR2 _ | exact bI_r _ | (unfold r32; omega)) ?_)
      dsimp only [pushR]
      refine wp_bne 31 dX7_lag_25 rfl (fun c25 => ?_) (fun c25 => ?_)
      · refine wp_iconst dX7_lag_31 ?_
        refine wp_istore_n (L' := [some (vR p), some (vI a), some (vI k), some (vI 0), none]) dX7_lag_32 (by decide) rfl ?_
        refine wp_aload_n dX7_lag_33 rfl ?_
        refine sa_get hS dX7_lag_34 fX7_9 ?_
        refine wp_iload_n dX7_lag_37 rfl ?_
        refine wp_iload_n dX7_lag_38 rfl ?_
        refine wp_is2 dX7_lag_39 SX7_entryAt lX7_112 (rq0 rfl rfl) (Nat.le_of_ble_eq_true rfl) (C_entryAt ?_)
        dsimp only [pushR]
        refine wp_iconst dX7_lag_42 ?_
        refine wp_iadd dX7_lag_43 ?_
        refine sa_ld (v := g (eA a k + 2)) hS dX7_lag_44 (by decide) (by first | omega | (unfold eA; omega) | (unfold oA; omega) | (unfold lA; omega) | (unfold dA; omega) | (unfold hA; omega)) rfl ?_
        refine wp_iconst dX7_lag_45 ?_
        refine wp_iadd dX7_lag_46 ?_
        refine wp_istore (L' := [some (vR p), some (vI a), some (vI k), some (vI 0), some (vI (g (eA a k + 2) + 1))]) dX7_lag_47 (by decide) rfl ?_
        exact lp_rLgL hS hR hI rk 60 (g (eA a k + 2) + 1) 0 (by omega) (by omega) (by omega) (by omega) (by have e : rLag g a k = _ := (if_pos c4).trans ((if_pos c11).trans (if_pos c25)); rw [e] at hQ; exact hQ)
      · refine wp_bipush dX7_lag_28 rfl ?_
        exact wp_iret dX7_lag_30 rfl (by have e : rLag g a k = _ := (if_pos c4).trans ((if_pos c11).trans (if_neg c25)); rw [e] at hQ; exact hQ)
    · refine wp_iconst dX7_lag_14 ?_
      exact wp_iret dX7_lag_15 rfl (by have e : rLag g a k = _ := (if_pos c4).trans (if_neg c11); rw [e] at hQ; exact hQ)
def rOwL (g : Int → Int) (c k y : Int) : Nat → Int → Int
  | 0, _ => 1
  | m + 1, z => if g 2 < z then 1 else if g (36 + 3 * (z - 1)) = k then if g (36 + 3 * (z - 1) + 2) = c then 0 else rOwL g c k y m (z + 1) else rOwL g c k y m (z + 1)
set_option maxHeartbeats 2000000 in
theorem lp_rOwL {b : Nat × Nat} {c k y : Int} (hS : SA 7 p q h) (hR : ∀ j, r32 (g j)) (hI : IM B g) (rc : r32 c) (rk : r32 k) : ∀ (m : Nat) (z : Int), g 2 + 1 ≤ z + m → 0 ≤ z → (1 ≤ z) → (z ≤ 62) → Q (some (vI (rOwL g c k y m z))) (h.set q (oI 1014 g)) → Wp X kX7_own 49 [some (vR p), some (vI c), some (vI k), some (vI y), some (vI z)] [] (h.set q (oI 1014 g)) b Q := by
  intro m
  induction m with
  | zero =>
    intro z h1 h3 h4 h5 hQ
    have hw := hI.n60 (j := 2) (by omega)
    refine wp_iload dX7_own_49 rfl ?_
    refine wp_aload_n dX7_own_51 rfl ?_
    refine sa_get hS dX7_own_52 fX7_9 ?_
    refine wp_iconst dX7_own_55 ?_
    refine sa_ld (v := g 2) hS dX7_own_56 (by decide) (by first | omega | (unfold eA; omega) | (unfold oA; omega) | (unfold lA; omega) | (unfold dA; omega) | (unfold hA; omega)) rfl ?_
    refine wp_icmp_gt 98 dX7_own_57 rfl (by first | assumption | exact hR _ | exact hR2 _ | exact bI_r _ | (unfold r32; omega)) (by first | assumption | exact hR _ | exact hR2 _ | exact bI_r _ | (unfold r32; omega)) (fun c57 => ?_) (fun c57 => ?_)
    · refine wp_iconst dX7_own_98 ?_
      exact wp_iret dX7_own_99 rfl (by have e : rOwL g c k y 0 z = _ := rfl; rw [e] at hQ; exact hQ)
    · omega
  | succ m ih =>
    intro z h1 h3 h4 h5 hQ
    have hw := hI.n60 (j := 2) (by omega)
    refine wp_iload dX7_own_49 rfl ?_
    refine wp_aload_n dX7_own_51 rfl ?_
    refine sa_get hS dX7_own_52 fX7_9 ?_
    refine wp_iconst dX7_own_55 ?_
    refine sa_ld (v := g 2) hS dX7_own_56 (by decide) (by first | omega | (unfold eA; omega) | (unfold oA; omega) | (unfold lA; omega) | (unfold dA; omega) | (unfold hA; omega)) rfl ?_
    refine wp_icmp_gt 98 dX7_own_57 rfl (by first | assumption | exact hR _ | exact hR2 _ | exact bI_r _ | (unfold r32; omega)) (by first | assumption | exact hR _ | exact hR2 _ | exact bI_r _ | (unfold r32; omega)) (fun c57 => ?_) (fun c57 => ?_)
    · refine wp_iconst dX7_own_98 ?_
      exact wp_iret dX7_own_99 rfl (by have e : rOwL g c k y (m + 1) z = _ := if_pos c57; rw [e] at hQ; exact hQ)
    · refine wp_aload_n dX7_own_60 rfl ?_
      refine wp_iload dX7_own_61 rfl ?_
      refine sa_i1 hS dX7_own_63 VX7_keyOf lX7_102 (rq0 rfl rfl) (Nat.le_of_ble_eq_true rfl) (C_keyOf (v := g (36 + 3 * (z - 1))) hS (by omega) rfl ?_)
      dsimp only [pushR]
      refine wp_iload_n dX7_own_66 rfl ?_
      refine wp_icmp_ne 92 dX7_own_67 rfl (by first | assumption | exact hR _ | exact hR2 _ | exact bI_r _ | (unfold r32; omega)) (by first | assumption | exact hR _ | exact hR2 _ | exact bI_r _ | (unfold r32; omega)) (fun c67 => ?_) (fun c67 => ?_)
      · refine wp_iinc (L' := [some (vR p), some (vI c), some (vI k), some (vI y), some (vI (z + 1))]) dX7_own_92 rfl rfl ?_
        refine wp_goto 49 dX7_own_95 rfl ?_
        exact ih _ (by omega) (by omega) (by omega) (by omega) (by have e : rOwL g c k y (m + 1) z = _ := (if_neg c57).trans (if_neg c67); rw [e] at hQ; exact hQ)
      · refine wp_aload_n dX7_own_70 rfl ?_
        refine sa_get hS dX7_own_71 fX7_9 ?_
        refine wp_bipush dX7_own_74 rfl ?_
        refine wp_iconst dX7_own_76 ?_
        refine wp_iload dX7_own_77 rfl ?_
        refine wp_iconst dX7_own_79 ?_
        refine wp_isub dX7_own_80 ?_
        refine wp_imul dX7_own_81 ?_
        refine wp_iadd dX7_own_82 ?_
        refine wp_iconst dX7_own_83 ?_
        refine wp_iadd dX7_own_84 ?_
        refine sa_ld (v := g (36 + 3 * (z - 1) + 2)) hS dX7_own_85 (by decide) (by first | omega | (unfold eA; omega) | (unfold oA; omega) | (unfold lA; omega) | (unfold dA; omega) | (unfold hA; omega)) rfl ?_
        refine wp_iload_n dX7_own_86 rfl ?_
        refine wp_icmp_ne 92 dX7_own_87 rfl (by first | assumption | exact hR _ | exact hR2 _ | exact bI_r _ | (unfold r32; omega)) (by first | assumption | exact hR _ | exact hR2 _ | exact bI_r _ | (unfold r32; omega)) (fun c87 => ?_) (fun c87 => ?_)
        · refine wp_iinc (L' := [some (vR p), some (vI c), some (vI k), some (vI y), some (vI (z + 1))]) dX7_own_92 rfl rfl ?_
          refine wp_goto 49 dX7_own_95 rfl ?_
          exact ih _ (by omega) (by omega) (by omega) (by omega) (by have e : rOwL g c k y (m + 1) z = _ := (if_neg c57).trans ((if_pos c67).trans (if_neg c87)); rw [e] at hQ; exact hQ)
        · refine wp_iconst dX7_own_90 ?_
          exact wp_iret dX7_own_91 rfl (by have e : rOwL g c k y (m + 1) z = _ := (if_neg c57).trans ((if_pos c67).trans (if_pos c87)); rw [e] at hQ; exact hQ)
def rOwn (g : Int → Int) (c k : Int) : Int := if 0 ≤ c ∧ c ≤ 5 then if 0 ≤ k ∧ k ≤ 9 then if g 0 < g (eA (g (hA c + 0)) k) then rOwL g c k (eA (g (hA c + 0)) k) 60 (g (eA (g (hA c + 0)) k + 2) + 1) else (-2) else (-1) else (-1)
set_option maxHeartbeats 2000000 in
theorem C_rown {c k : Int} (hS : SA 7 p q h) (hI : IM B g) (hBB : B + 1000 ≤ 1000000000) (rc : r32 c) (rk : r32 k)  (hQ : Q (some (vI (rOwn g c k))) (h.set q (oI 1014 g))) : Cl X kX7_own [vR p, vI c, vI k] (h.set q (oI 1014 g)) Q := by
  refine cl_of rfl (Nat.le_of_ble_eq_true rfl) rfl ?_
  have hR := hI.r (by omega)
  have hw := hI.n60 (j := 2) (by omega)
  have hcg : ¬ (0 ≤ c ∧ c < 6) ∨ 0 ≤ g (hA c + 0) ∧ g (hA c + 0) < 6 := (Decidable.em (0 ≤ c ∧ c < 6)).elim (fun q => Or.inr (hI.cl q).1) Or.inl
  have he : ¬ ((0 ≤ c ∧ c < 6) ∧ 0 ≤ k ∧ k < 10) ∨ 0 ≤ g (eA (g (hA c + 0)) k + 2) ∧ g (eA (g (hA c + 0)) k + 2) ≤ 60 := (Decidable.em ((0 ≤ c ∧ c < 6) ∧ 0 ≤ k ∧ k < 10)).elim (fun q => Or.inr (hI.en (hI.cl q.1).1 q.2).2.2.1) Or.inl
  refine wp_iload_n dX7_own_0 rfl ?_
  refine wp_is1 dX7_own_1 SX7_isClient lX7_155 (rq0 rfl rfl) (Nat.le_of_ble_eq_true rfl) (C_isClient (by first | assumption | exact hR _ | exact hR2 _ | exact bI_r _ | (unfold r32; omega)) ?_)
  dsimp only [pushR]
  refine wp_beq 14 dX7_own_4 rfl (fun c4 => ?_) (fun c4 => ?_)
  · refine wp_iconst dX7_own_14 ?_
    exact wp_iret dX7_own_15 rfl (by have e : rOwn g c k = _ := if_neg c4; rw [e] at hQ; exact hQ)
  · refine wp_iload_n dX7_own_7 rfl ?_
    refine wp_is1 dX7_own_8 SX7_isKey lX7_158 (rq0 rfl rfl) (Nat.le_of_ble_eq_true rfl) (C_isKey (by first | assumption | exact hR _ | exact hR2 _ | exact bI_r _ | (unfold r32; omega)) ?_)
    dsimp only [pushR]
    refine wp_bne 16 dX7_own_11 rfl (fun c11 => ?_) (fun c11 => ?_)
    · refine wp_aload_n dX7_own_16 rfl ?_
      refine wp_iload_n dX7_own_17 rfl ?_
      refine sa_i1 hS dX7_own_18 VX7_groupOf lX7_109 (rq0 rfl rfl) (Nat.le_of_ble_eq_true rfl) (C_groupOf (v := g (hA c + 0)) hS (by omega) rfl ?_)
      dsimp only [pushR]
      refine wp_iload_n dX7_own_21 rfl ?_
      refine wp_is2 dX7_own_22 SX7_entryAt lX7_112 (rq0 rfl rfl) (Nat.le_of_ble_eq_true rfl) (C_entryAt ?_)
      dsimp only [pushR]
      refine wp_istore_n (L' := [some (vR p), some (vI c), some (vI k), some (vI (eA (g (hA c + 0)) k)), none]) dX7_own_25 (by decide) rfl ?_
      refine wp_aload_n dX7_own_26 rfl ?_
      refine wp_iload_n dX7_own_27 rfl ?_
      refine sa_i1 hS dX7_own_28 VX7_isThere lX7_115 (rq0 rfl rfl) (Nat.le_of_ble_eq_true rfl) (C_isThere (v0 := g 0) (v1 := g (eA (g (hA c + 0)) k)) hS (by first | omega | (unfold eA; omega) | (unfold oA; omega) | (unfold lA; omega) | (unfold dA; omega) | (unfold hA; omega)) rfl rfl (by first | assumption | exact hR _ | exact hR2 _ | exact bI_r _ | (unfold r32; omega)) (by first | assumption | exact hR _ | exact hR2 _ | exact bI_r _ | (unfold r32; omega)) ?_)
      dsimp only [pushR]
      refine wp_bne 37 dX7_own_31 rfl (fun c31 => ?_) (fun c31 => ?_)
      · refine wp_aload_n dX7_own_37 rfl ?_
        refine sa_get hS dX7_own_38 fX7_9 ?_
        refine wp_iload_n dX7_own_41 rfl ?_
        refine wp_iconst dX7_own_42 ?_
        refine wp_iadd dX7_own_43 ?_
        refine sa_ld (v := g (eA (g (hA c + 0)) k + 2)) hS dX7_own_44 (by decide) (by first | omega | (unfold eA; omega) | (unfold oA; omega) | (unfold lA; omega) | (unfold dA; omega) | (unfold hA; omega)) rfl ?_
        refine wp_iconst dX7_own_45 ?_
        refine wp_iadd dX7_own_46 ?_
        refine wp_istore (L' := [some (vR p), some (vI c), some (vI k), some (vI (eA (g (hA c + 0)) k)), some (vI (g (eA (g (hA c + 0)) k + 2) + 1))]) dX7_own_47 (by decide) rfl ?_
        exact lp_rOwL hS hR hI rc rk 60 (g (eA (g (hA c + 0)) k + 2) + 1) (by omega) (by omega) (by omega) (by omega) (by have e : rOwn g c k = _ := (if_pos c4).trans ((if_pos c11).trans (if_pos c31)); rw [e] at hQ; exact hQ)
      · refine wp_bipush dX7_own_34 rfl ?_
        exact wp_iret dX7_own_36 rfl (by have e : rOwn g c k = _ := (if_pos c4).trans ((if_pos c11).trans (if_neg c31)); rw [e] at hQ; exact hQ)
    · refine wp_iconst dX7_own_14 ?_
      exact wp_iret dX7_own_15 rfl (by have e : rOwn g c k = _ := (if_pos c4).trans (if_neg c11); rw [e] at hQ; exact hQ)
def rHiL (g : Int → Int) (j a : Int) : Nat → Int → Int → Int
  | 0, _, n => n
  | m + 1, k, n => if g (26 + a) < g (26 + k) then rHiL g j a m (k + 1) (n + 1) else if g (26 + k) = g (26 + a) then if a ≤ k then rHiL g j a m (k + 1) (n + 0) else rHiL g j a m (k + 1) (n + 1) else rHiL g j a m (k + 1) (n + 0)
set_option maxHeartbeats 2000000 in
theorem lp_rHiL {b : Nat × Nat} {j a : Int} (hS : SA 7 p q h) (hR : ∀ j, r32 (g j)) (hI : IM B g) (ha : 0 ≤ a ∧ a < 10) : ∀ (m : Nat) (k n : Int), k + m = 10 → 0 ≤ k → Wp X kX7_hottest 93 [some (vR p), some (vI j), some (vI a), some (vI (rHiL g j a m k n)), some (vI 10)] [] (h.set q (oI 1014 g)) b Q → Wp X kX7_hottest 22 [some (vR p), some (vI j), some (vI a), some (vI n), some (vI k)] [] (h.set q (oI 1014 g)) b Q := by
  intro m
  induction m with
  | zero =>
    intro k n h1 h3 hQ
    obtain rfl : k = 10 := by omega
    refine wp_iload dX7_hottest_22 rfl ?_
    refine wp_bipush dX7_hottest_24 rfl ?_
    refine wp_icmp_ge 93 dX7_hottest_26 rfl (by first | assumption | exact hR _ | exact hR2 _ | exact bI_r _ | (unfold r32; omega)) ⟨by omega, by omega⟩ (fun c26 => ?_) (fun c26 => ?_)
    · exact (by have e : rHiL g j a 0 10 n = _ := rfl; rw [e] at hQ; exact hQ)
    · omega
  | succ m ih =>
    intro k n h1 h3 hQ
    refine wp_iload dX7_hottest_22 rfl ?_
    refine wp_bipush dX7_hottest_24 rfl ?_
    refine wp_icmp_ge 93 dX7_hottest_26 rfl (by first | assumption | exact hR _ | exact hR2 _ | exact bI_r _ | (unfold r32; omega)) ⟨by omega, by omega⟩ (fun c26 => ?_) (fun c26 => ?_)
    · omega
    · refine wp_iload_n dX7_hottest_29 rfl ?_
      refine wp_aload_n dX7_hottest_30 rfl ?_
      refine sa_get hS dX7_hottest_31 fX7_9 ?_
      refine wp_bipush dX7_hottest_34 rfl ?_
      refine wp_iload dX7_hottest_36 rfl ?_
      refine wp_iadd dX7_hottest_38 ?_
      refine sa_ld (v := g (26 + k)) hS dX7_hottest_39 (by decide) (by first | omega | (unfold eA; omega) | (unfold oA; omega) | (unfold lA; omega) | (unfold dA; omega) | (unfold hA; omega)) rfl ?_
      refine wp_aload_n dX7_hottest_40 rfl ?_
      refine sa_get hS dX7_hottest_41 fX7_9 ?_
      refine wp_bipush dX7_hottest_44 rfl ?_
      refine wp_iload_n dX7_hottest_46 rfl ?_
      refine wp_iadd dX7_hottest_47 ?_
      refine sa_ld (v := g (26 + a)) hS dX7_hottest_48 (by decide) (by first | omega | (unfold eA; omega) | (unfold oA; omega) | (unfold lA; omega) | (unfold dA; omega) | (unfold hA; omega)) rfl ?_
      refine wp_icmp_gt 80 dX7_hottest_49 rfl (by first | assumption | exact hR _ | exact hR2 _ | exact bI_r _ | (unfold r32; omega)) (by first | assumption | exact hR _ | exact hR2 _ | exact bI_r _ | (unfold r32; omega)) (fun c49 => ?_) (fun c49 => ?_)
      · refine wp_iconst dX7_hottest_80 ?_
        refine wp_goto 85 dX7_hottest_81 rfl ?_
        refine wp_iadd dX7_hottest_85 ?_
        refine wp_istore_n (L' := [some (vR p), some (vI j), some (vI a), some (vI (n + 1)), some (vI k)]) dX7_hottest_86 (by decide) rfl ?_
        refine wp_iinc (L' := [some (vR p), some (vI j), some (vI a), some (vI (n + 1)), some (vI (k + 1))]) dX7_hottest_87 rfl rfl ?_
        refine wp_goto 22 dX7_hottest_90 rfl ?_
        exact ih _ _ (by omega) (by omega) (by have e : rHiL g j a (m + 1) k n = _ := if_pos c49; rw [e] at hQ; exact hQ)
      · refine wp_aload_n dX7_hottest_52 rfl ?_
        refine sa_get hS dX7_hottest_53 fX7_9 ?_
        refine wp_bipush dX7_hottest_56 rfl ?_
        refine wp_iload dX7_hottest_58 rfl ?_
        refine wp_iadd dX7_hottest_60 ?_
        refine sa_ld (v := g (26 + k)) hS dX7_hottest_61 (by decide) (by first | omega | (unfold eA; omega) | (unfold oA; omega) | (unfold lA; omega) | (unfold dA; omega) | (unfold hA; omega)) rfl ?_
        refine wp_aload_n dX7_hottest_62 rfl ?_
        refine sa_get hS dX7_hottest_63 fX7_9 ?_
        refine wp_bipush dX7_hottest_66 rfl ?_
        refine wp_iload_n dX7_hottest_68 rfl ?_
        refine wp_iadd dX7_hottest_69 ?_
        refine sa_ld (v := g (26 + a)) hS dX7_hottest_70 (by decide) (by first | omega | (unfold eA; omega) | (unfold oA; omega) | (unfold lA; omega) | (unfold dA; omega) | (unfold hA; omega)) rfl ?_
        refine wp_icmp_ne 84 dX7_hottest_71 rfl (by first | assumption | exact hR _ | exact hR2 _ | exact bI_r _ | (unfold r32; omega)) (by first | assumption | exact hR _ | exact hR2 _ | exact bI_r _ | (unfold r32; omega)) (fun c71 => ?_) (fun c71 => ?_)
        · refine wp_iconst dX7_hottest_84 ?_
          refine wp_iadd dX7_hottest_85 ?_
          refine wp_istore_n (L' := [some (vR p), some (vI j), some (vI a), some (vI (n + 0)), some (vI k)]) dX7_hottest_86 (by decide) rfl ?_
          refine wp_iinc (L' := [some (vR p), some (vI j), some (vI a), some (vI (n + 0)), some (vI (k + 1))]) dX7_hottest_87 rfl rfl ?_
          refine wp_goto 22 dX7_hottest_90 rfl ?_
          exact ih _ _ (by omega) (by omega) (by have e : rHiL g j a (m + 1) k n = _ := (if_neg c49).trans (if_neg c71); rw [e] at hQ; exact hQ)
        · refine wp_iload dX7_hottest_74 rfl ?_
          refine wp_iload_n dX7_hottest_76 rfl ?_
          refine wp_icmp_ge 84 dX7_hottest_77 rfl (by first | assumption | exact hR _ | exact hR2 _ | exact bI_r _ | (unfold r32; omega)) (by first | assumption | exact hR _ | exact hR2 _ | exact bI_r _ | (unfold r32; omega)) (fun c77 => ?_) (fun c77 => ?_)
          · refine wp_iconst dX7_hottest_84 ?_
            refine wp_iadd dX7_hottest_85 ?_
            refine wp_istore_n (L' := [some (vR p), some (vI j), some (vI a), some (vI (n + 0)), some (vI k)]) dX7_hottest_86 (by decide) rfl ?_
            refine wp_iinc (L' := [some (vR p), some (vI j), some (vI a), some (vI (n + 0)), some (vI (k + 1))]) dX7_hottest_87 rfl rfl ?_
            refine wp_goto 22 dX7_hottest_90 rfl ?_
            exact ih _ _ (by omega) (by omega) (by have e : rHiL g j a (m + 1) k n = _ := (if_neg c49).trans ((if_pos c71).trans (if_pos c77)); rw [e] at hQ; exact hQ)
          · refine wp_iconst dX7_hottest_80 ?_
            refine wp_goto 85 dX7_hottest_81 rfl ?_
            refine wp_iadd dX7_hottest_85 ?_
            refine wp_istore_n (L' := [some (vR p), some (vI j), some (vI a), some (vI (n + 1)), some (vI k)]) dX7_hottest_86 (by decide) rfl ?_
            refine wp_iinc (L' := [some (vR p), some (vI j), some (vI a), some (vI (n + 1)), some (vI (k + 1))]) dX7_hottest_87 rfl rfl ?_
            refine wp_goto 22 dX7_hottest_90 rfl ?_
            exact ih _ _ (by omega) (by omega) (by have e : rHiL g j a (m + 1) k n = _ := (if_neg c49).trans ((if_pos c71).trans (if_neg c77)); rw [e] at hQ; exact hQ)
theorem rHiL_b {j a : Int} : ∀ (m : Nat) (k n : Int), n ≤ rHiL g j a m k n ∧ rHiL g j a m k n ≤ n + m := by
  intro m
  induction m with
  | zero => intro k n; simp [rHiL]
  | succ m ih =>
    intro k n
    unfold rHiL
    have h0 := ih (k + 1) (n + 0)
    have h1 := ih (k + 1) n
    have h2 := ih (k + 1) (n + 1)
    (repeat' split) <;> omega
theorem rHi_r (g : Int → Int) (j a : Int) : r32 (rHiL g j a 10 0 0) := by have := rHiL_b (g := g) (j := j) (a := a) 10 0 0; unfold r32; omega
def rHoL (g : Int → Int) (j : Int) : Nat → Int → Int
  | 0, _ => (-1)
  | m + 1, k => if rHiL g j k 10 0 0 = j then k else rHoL g j m (k + 1)
set_option maxHeartbeats 2000000 in
theorem lp_rHoL {b : Nat × Nat} {j : Int} (hS : SA 7 p q h) (hR : ∀ j, r32 (g j)) (hI : IM B g) (hj : 0 ≤ j ∧ j < 10) : ∀ (m : Nat) (k : Int), k + m = 10 → 0 ≤ k → Q (some (vI (rHoL g j m k))) (h.set q (oI 1014 g)) → Wp X kX7_hottest 11 [some (vR p), some (vI j), some (vI k), none, none] [] (h.set q (oI 1014 g)) b Q := by
  intro m
  induction m with
  | zero =>
    intro k h1 h3 hQ
    obtain rfl : k = 10 := by omega
    refine wp_iload_n dX7_hottest_11 rfl ?_
    refine wp_bipush dX7_hottest_12 rfl ?_
    refine wp_icmp_ge 106 dX7_hottest_14 rfl (by first | assumption | exact hR _ | exact hR2 _ | exact bI_r _ | (unfold r32; omega)) ⟨by omega, by omega⟩ (fun c14 => ?_) (fun c14 => ?_)
    · refine wp_iconst dX7_hottest_106 ?_
      exact wp_iret dX7_hottest_107 rfl (by have e : rHoL g j 0 10 = _ := rfl; rw [e] at hQ; exact hQ)
    · omega
  | succ m ih =>
    intro k h1 h3 hQ
    refine wp_iload_n dX7_hottest_11 rfl ?_
    refine wp_bipush dX7_hottest_12 rfl ?_
    refine wp_icmp_ge 106 dX7_hottest_14 rfl (by first | assumption | exact hR _ | exact hR2 _ | exact bI_r _ | (unfold r32; omega)) ⟨by omega, by omega⟩ (fun c14 => ?_) (fun c14 => ?_)
    · omega
    · refine wp_iconst dX7_hottest_17 ?_
      refine wp_istore_n (L' := [some (vR p), some (vI j), some (vI k), some (vI 0), none]) dX7_hottest_18 (by decide) rfl ?_
      refine wp_iconst dX7_hottest_19 ?_
      refine wp_istore (L' := [some (vR p), some (vI j), some (vI k), some (vI 0), some (vI 0)]) dX7_hottest_20 (by decide) rfl ?_
      refine lp_rHiL hS hR hI ⟨h3, by omega⟩ 10 0 0 (by omega) (by omega) ?_
      refine wp_iload_n dX7_hottest_93 rfl ?_
      refine wp_iload_n dX7_hottest_94 rfl ?_
      refine wp_icmp_ne 100 dX7_hottest_95 rfl (by first | exact rHi_r _ _ _ | (unfold r32; omega)) (by first | exact rHi_r _ _ _ | (unfold r32; omega)) (fun c95 => ?_) (fun c95 => ?_)
      · refine wp_iinc (L' := [some (vR p), some (vI j), some (vI (k + 1)), some (vI (rHiL g j k 10 0 0)), some (vI 10)]) dX7_hottest_100 rfl rfl ?_
        refine wp_goto 11 dX7_hottest_103 rfl ?_
        refine wp_drop (L' := [some (vR p), some (vI j), some (vI (k + 1)), none, some (vI 10)]) 3 rfl ?_
        refine wp_drop (L' := [some (vR p), some (vI j), some (vI (k + 1)), none, none]) 4 rfl ?_
        exact ih _ (by omega) (by omega) (by have e : rHoL g j (m + 1) k = _ := if_neg c95; rw [e] at hQ; exact hQ)
      · refine wp_iload_n dX7_hottest_98 rfl ?_
        exact wp_iret dX7_hottest_99 rfl (by have e : rHoL g j (m + 1) k = _ := if_pos c95; rw [e] at hQ; exact hQ)
def rHottest (g : Int → Int) (j : Int) : Int := if 0 ≤ j ∧ j ≤ 9 then rHoL g j 10 0 else (-1)
set_option maxHeartbeats 2000000 in
theorem C_rhottest {j : Int} (hS : SA 7 p q h) (hI : IM B g) (hBB : B + 1000 ≤ 1000000000) (rj : r32 j)  (hQ : Q (some (vI (rHottest g j))) (h.set q (oI 1014 g))) : Cl X kX7_hottest [vR p, vI j] (h.set q (oI 1014 g)) Q := by
  refine cl_of rfl (Nat.le_of_ble_eq_true rfl) rfl ?_
  have hR := hI.r (by omega)
  refine wp_iload_n dX7_hottest_0 rfl ?_
  refine wp_is1 dX7_hottest_1 SX7_isKey lX7_158 (rq0 rfl rfl) (Nat.le_of_ble_eq_true rfl) (C_isKey (by first | assumption | exact hR _ | exact hR2 _ | exact bI_r _ | (unfold r32; omega)) ?_)
  dsimp only [pushR]
  refine wp_bne 9 dX7_hottest_4 rfl (fun c4 => ?_) (fun c4 => ?_)
  · refine wp_iconst dX7_hottest_9 ?_
    refine wp_istore_n (L' := [some (vR p), some (vI j), some (vI 0), none, none]) dX7_hottest_10 (by decide) rfl ?_
    exact lp_rHoL hS hR hI (by omega) 10 0 (by omega) (by omega) (by have e : rHottest g j = _ := if_pos c4; rw [e] at hQ; exact hQ)
  · refine wp_iconst dX7_hottest_7 ?_
    exact wp_iret dX7_hottest_8 rfl (by have e : rHottest g j = _ := if_neg c4; rw [e] at hQ; exact hQ)
end RQ
