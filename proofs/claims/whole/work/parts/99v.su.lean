/-! storm, the class -/
section SU
variable {X : XS} {h : AH} {Q : Option AV → AH → Prop} {tf Kp : Int → Int} {r0 l0 v0 f0 : Int} {b : Nat × Nat}
theorem AK.iw {B : Int} {f g : Int → Int} (h : AK B f g) (hB : 1000 ≤ B) : IW B f ∧ f 8 ≤ 3 := ⟨Sm.iw h.1 h.2.1 hB, by have := h.2.1.set; have := h.1.2.1; omega⟩
set_option maxHeartbeats 2000000 in
theorem lp_oa {k tk : Int} {w0 : Int → Int} (h8 : h[8]? = some (oO 3 [vR 3, vI r0, vI l0, vI v0, vI f0])) (h3 : h[3]? = some (oO 5 [vR 4])) (h4 : h[4]? = some (oI 1060 tf)) (hk : 0 ≤ k ∧ k < 10) (ht : tk = 0 ∨ tk = 1) (h0 : WB w0) : ∀ (m : Nat) (c : Int) (w f g : Int → Int) (B : Int) (y6 : Option AV), c + m = 6 → 0 ≤ c → AK B f g → 1000 ≤ B → B + 1000 * m ≤ 8000000 → WB w → (∀ j, c ≤ j → w j = w0 j) → Q (some (vI (bs (cO k tk m c w f).1))) (h.set 4 (oI 1060 (cO k tk m c w f).2)) → Wp X kX3_obtainAll 6 [some (vR 8), some (vI (bs w0)), some (vI k), some (vI tk), some (vI (bs w)), some (vI c), y6] [] (h.set 4 (oI 1060 f)) b Q := by
  intro m
  induction m with
  | zero =>
    intro c w f g B y6 q1 q2 hA hB hBB hw hj hQ
    refine wp_iload dX3_obtainAll_6 rfl ?_
    refine wp_bipush dX3_obtainAll_8 rfl ?_
    refine wp_icmp_ge 69 dX3_obtainAll_10 rfl (by first | assumption | exact hR _ | (unfold r32; omega)) ⟨by omega, by omega⟩ (fun c10 => ?_) (fun c10 => ?_)
    · refine wp_iload dX3_obtainAll_69 rfl ?_
      exact wp_iret dX3_obtainAll_71 rfl hQ
    · exfalso; omega
  | succ m ih =>
    intro c w f g B y6 q1 q2 hA hB hBB hw hj hQ
    have hc : 0 ≤ c ∧ c < 6 := by omega
    have hiw := hA.iw hB
    have q := hA.get (c := c) (k := k) ⟨hB, by omega⟩ hc hk
    have ra : r32 (wGet f c k).1 := by rw [q.1]; exact q.2.2
    have hc0 := hj c (by omega)
    have w01 := h0 c
    unfold cO stO at hQ
    refine wp_iload dX3_obtainAll_6 rfl ?_
    refine wp_bipush dX3_obtainAll_8 rfl ?_
    refine wp_icmp_ge 69 dX3_obtainAll_10 rfl (by first | assumption | exact hR _ | (unfold r32; omega)) ⟨by omega, by omega⟩ (fun c10 => ?_) (fun c10 => ?_)
    · refine wp_iload dX3_obtainAll_69 rfl ?_
      exact wp_iret dX3_obtainAll_71 rfl (False.elim (by omega))
    · refine wp_iload_n dX3_obtainAll_13 rfl ?_
      refine wp_iload dX3_obtainAll_14 rfl ?_
      refine wp_ishr (z := bs w0 / pw c) dX3_obtainAll_16 (sr_bs h0 hc) ?_
      refine wp_iconst dX3_obtainAll_17 ?_
      refine wp_iand (z := w0 c) dX3_obtainAll_18 (s1_bs h0 hc) ?_
      refine wp_iconst dX3_obtainAll_19 ?_
      refine wp_icmp_ne 63 dX3_obtainAll_20 rfl (by first | assumption | exact hR _ | (unfold r32; omega)) ⟨by omega, by omega⟩ (fun c20 => ?_) (fun c20 => ?_)
      · refine wp_iinc (L' := [some (vR 8), some (vI (bs w0)), some (vI k), some (vI tk), some (vI (bs w)), some (vI (c + 1)), y6]) dX3_obtainAll_63 rfl rfl ?_
        refine wp_goto 6 dX3_obtainAll_66 rfl ?_
        rw [if_neg (by omega)] at hQ
        exact ih (c + 1) w f g B _ (by omega) (by omega) hA hB (by omega) hw (fun j a => hj j (by omega)) hQ
      · refine wp_aload_n dX3_obtainAll_23 rfl ?_
        refine wp_getf dX3_obtainAll_24 fX3_9 (gs_ne (by decide) h8) rfl ?_
        refine wp_iload dX3_obtainAll_27 rfl ?_
        refine wp_iload_n dX3_obtainAll_29 rfl ?_
        refine wp_iv2 dX3_obtainAll_30 VX5_obtain lX3_54 (gs_ne (by decide) h3) (rq0 rfl rfl) (Nat.le_of_ble_eq_true rfl) (sa_of (gs_eq (gs_lt h4)) (C_wobtain (sa_mk (by decide) (gs_ne (by decide) h3) rfl (gs_eq (gs_lt h4))) hiw.1 (by omega) hc hk ?_))
        dsimp only [pushR]
        rw [List.set_set]
        refine wp_istore (L' := [some (vR 8), some (vI (bs w0)), some (vI k), some (vI tk), some (vI (bs w)), some (vI c), some (vI ((wGet f c k).1))]) dX3_obtainAll_33 (by decide) rfl ?_
        refine wp_iload dX3_obtainAll_35 rfl ?_
        refine wp_if_lt 63 dX3_obtainAll_37 rfl (by first | assumption | exact hR _ | (unfold r32; omega)) (fun c37 => ?_) (fun c37 => ?_)
        · refine wp_iinc (L' := [some (vR 8), some (vI (bs w0)), some (vI k), some (vI tk), some (vI (bs w)), some (vI (c + 1)), some (vI ((wGet f c k).1))]) dX3_obtainAll_63 rfl rfl ?_
          refine wp_goto 6 dX3_obtainAll_66 rfl ?_
          rw [if_pos (by omega), if_neg (by omega)] at hQ
          exact ih (c + 1) w _ _ (B + 1000) _ (by omega) (by omega) q.2.1 (by omega) (by omega) hw (fun j a => hj j (by omega)) hQ
        · refine wp_iload dX3_obtainAll_40 rfl ?_
          refine wp_sipush dX3_obtainAll_42 rfl ?_
          refine wp_icmp_lt 52 dX3_obtainAll_45 rfl (by first | assumption | exact hR _ | (unfold r32; omega)) ⟨by omega, by omega⟩ (fun c45 => ?_) (fun c45 => ?_)
          · refine wp_iload dX3_obtainAll_52 rfl ?_
            refine wp_iconst dX3_obtainAll_54 ?_
            refine wp_iload dX3_obtainAll_55 rfl ?_
            refine wp_ishl (z := pw c) dX3_obtainAll_57 (sh_1 (by omega)) ?_
            refine wp_iconst dX3_obtainAll_58 ?_
            refine wp_ixor (z := -pw c - 1) dX3_obtainAll_59 (xr_pw (by omega)) ?_
            refine wp_iand (z := bs (ud w c 0)) dX3_obtainAll_60 (ac_bs hw.b (by omega)) ?_
            refine wp_istore (L' := [some (vR 8), some (vI (bs w0)), some (vI k), some (vI tk), some (vI (bs (ud w c 0))), some (vI c), some (vI ((wGet f c k).1))]) dX3_obtainAll_61 (by decide) rfl ?_
            refine wp_iinc (L' := [some (vR 8), some (vI (bs w0)), some (vI k), some (vI tk), some (vI (bs (ud w c 0))), some (vI (c + 1)), some (vI ((wGet f c k).1))]) dX3_obtainAll_63 rfl rfl ?_
            refine wp_goto 6 dX3_obtainAll_66 rfl ?_
            rw [if_pos (by omega), if_pos (by omega)] at hQ
            exact ih (c + 1) _ _ _ (B + 1000) _ (by omega) (by omega) q.2.1 (by omega) (by omega) hw.c (fun j a => by rw [ud_ne (by omega)]; exact hj j (by omega)) hQ
          · refine wp_iload_n dX3_obtainAll_48 rfl ?_
            refine wp_if_eq 63 dX3_obtainAll_49 rfl (by first | assumption | exact hR _ | (unfold r32; omega)) (fun c49 => ?_) (fun c49 => ?_)
            · refine wp_iinc (L' := [some (vR 8), some (vI (bs w0)), some (vI k), some (vI tk), some (vI (bs w)), some (vI (c + 1)), some (vI ((wGet f c k).1))]) dX3_obtainAll_63 rfl rfl ?_
              refine wp_goto 6 dX3_obtainAll_66 rfl ?_
              rw [if_pos (by omega), if_neg (by omega)] at hQ
              exact ih (c + 1) w _ _ (B + 1000) _ (by omega) (by omega) q.2.1 (by omega) (by omega) hw (fun j a => hj j (by omega)) hQ
            · refine wp_iload dX3_obtainAll_52 rfl ?_
              refine wp_iconst dX3_obtainAll_54 ?_
              refine wp_iload dX3_obtainAll_55 rfl ?_
              refine wp_ishl (z := pw c) dX3_obtainAll_57 (sh_1 (by omega)) ?_
              refine wp_iconst dX3_obtainAll_58 ?_
              refine wp_ixor (z := -pw c - 1) dX3_obtainAll_59 (xr_pw (by omega)) ?_
              refine wp_iand (z := bs (ud w c 0)) dX3_obtainAll_60 (ac_bs hw.b (by omega)) ?_
              refine wp_istore (L' := [some (vR 8), some (vI (bs w0)), some (vI k), some (vI tk), some (vI (bs (ud w c 0))), some (vI c), some (vI ((wGet f c k).1))]) dX3_obtainAll_61 (by decide) rfl ?_
              refine wp_iinc (L' := [some (vR 8), some (vI (bs w0)), some (vI k), some (vI tk), some (vI (bs (ud w c 0))), some (vI (c + 1)), some (vI ((wGet f c k).1))]) dX3_obtainAll_63 rfl rfl ?_
              refine wp_goto 6 dX3_obtainAll_66 rfl ?_
              rw [if_pos (by omega), if_pos (by omega)] at hQ
              exact ih (c + 1) _ _ _ (B + 1000) _ (by omega) (by omega) q.2.1 (by omega) (by omega) hw.c (fun j a => by rw [ud_ne (by omega)]; exact hj j (by omega)) hQ
theorem C_obtainAll {k tk B : Int} {w f g : Int → Int} (h8 : h[8]? = some (oO 3 [vR 3, vI r0, vI l0, vI v0, vI f0])) (h3 : h[3]? = some (oO 5 [vR 4])) (h4 : h[4]? = some (oI 1060 tf)) (hk : 0 ≤ k ∧ k < 10) (ht : tk = 0 ∨ tk = 1) (hA : AK B f g) (hB : 1000 ≤ B) (hBB : B + 6000 ≤ 8000000) (hw : WB w) (hQ : Q (some (vI (bs (cO k tk 6 0 w f).1))) (h.set 4 (oI 1060 (cO k tk 6 0 w f).2))) : Cl X kX3_obtainAll [vR 8, vI (bs w), vI k, vI tk] (h.set 4 (oI 1060 f)) Q := by
  refine cl_of rfl (Nat.le_of_ble_eq_true rfl) rfl ?_
  refine wp_iload_n dX3_obtainAll_0 rfl ?_
  refine wp_istore (L' := [some (vR 8), some (vI (bs w)), some (vI k), some (vI tk), some (vI (bs w)), none, none]) dX3_obtainAll_1 (by decide) rfl ?_
  refine wp_iconst dX3_obtainAll_3 ?_
  refine wp_istore (L' := [some (vR 8), some (vI (bs w)), some (vI k), some (vI tk), some (vI (bs w)), some (vI 0), none]) dX3_obtainAll_4 (by decide) rfl ?_
  exact lp_oa h8 h3 h4 hk ht hw 6 0 w f g B _ (by omega) (by omega) hA hB (by omega) hw (fun _ _ => rfl) hQ
set_option maxHeartbeats 2000000 in
theorem lp_la {k : Int} {w : Int → Int} (h8 : h[8]? = some (oO 3 [vR 3, vI r0, vI l0, vI v0, vI f0])) (h3 : h[3]? = some (oO 5 [vR 4])) (h4 : h[4]? = some (oI 1060 tf)) (hk : 0 ≤ k ∧ k < 10) (hw : WB w) : ∀ (m : Nat) (c : Int) (lk f g : Int → Int) (B : Int), c + m = 6 → 0 ≤ c → AK B f g → 1000 ≤ B → B + 1000 * m ≤ 8000000 → WB lk → Q (some (vI (bs (cL k m c w lk f).1))) (h.set 4 (oI 1060 (cL k m c w lk f).2)) → Wp X kX3_lookAll 5 [some (vR 8), some (vI (bs w)), some (vI k), some (vI (bs lk)), some (vI c)] [] (h.set 4 (oI 1060 f)) b Q := by
  intro m
  induction m with
  | zero =>
    intro c lk f g B q1 q2 hA hB hBB hl hQ
    refine wp_iload dX3_lookAll_5 rfl ?_
    refine wp_bipush dX3_lookAll_7 rfl ?_
    refine wp_icmp_ge 58 dX3_lookAll_9 rfl (by first | assumption | exact hR _ | (unfold r32; omega)) ⟨by omega, by omega⟩ (fun c9 => ?_) (fun c9 => ?_)
    · refine wp_iload_n dX3_lookAll_58 rfl ?_
      exact wp_iret dX3_lookAll_59 rfl hQ
    · exfalso; omega
  | succ m ih =>
    intro c lk f g B q1 q2 hA hB hBB hl hQ
    have hc : 0 ≤ c ∧ c < 6 := by omega
    have hiw := hA.iw hB
    have q := hA.look (c := c) ⟨hB, by omega⟩ hc
    have w01 := hw c
    have h01 : wHf f c k = 0 ∨ wHf f c k = 1 := by unfold wHf; (repeat' split) <;> omega
    unfold cL stK at hQ
    refine wp_iload dX3_lookAll_5 rfl ?_
    refine wp_bipush dX3_lookAll_7 rfl ?_
    refine wp_icmp_ge 58 dX3_lookAll_9 rfl (by first | assumption | exact hR _ | (unfold r32; omega)) ⟨by omega, by omega⟩ (fun c9 => ?_) (fun c9 => ?_)
    · refine wp_iload_n dX3_lookAll_58 rfl ?_
      exact wp_iret dX3_lookAll_59 rfl (False.elim (by omega))
    · refine wp_iload_n dX3_lookAll_12 rfl ?_
      refine wp_iload dX3_lookAll_13 rfl ?_
      refine wp_ishr (z := bs w / pw c) dX3_lookAll_15 (sr_bs hw hc) ?_
      refine wp_iconst dX3_lookAll_16 ?_
      refine wp_iand (z := w c) dX3_lookAll_17 (s1_bs hw hc) ?_
      refine wp_iconst dX3_lookAll_18 ?_
      refine wp_icmp_ne 52 dX3_lookAll_19 rfl (by first | assumption | exact hR _ | (unfold r32; omega)) ⟨by omega, by omega⟩ (fun c19 => ?_) (fun c19 => ?_)
      · refine wp_iinc (L' := [some (vR 8), some (vI (bs w)), some (vI k), some (vI (bs lk)), some (vI (c + 1))]) dX3_lookAll_52 rfl rfl ?_
        refine wp_goto 5 dX3_lookAll_55 rfl ?_
        rw [if_neg (by omega)] at hQ
        exact ih (c + 1) lk f g B (by omega) (by omega) hA hB (by omega) hl hQ
      · refine wp_aload_n dX3_lookAll_22 rfl ?_
        refine wp_getf dX3_lookAll_23 fX3_9 (gs_ne (by decide) h8) rfl ?_
        refine wp_iload dX3_lookAll_26 rfl ?_
        refine wp_iload_n dX3_lookAll_28 rfl ?_
        refine wp_iv2 dX3_lookAll_29 VX5_hasHandFor lX3_57 (gs_ne (by decide) h3) (rq0 rfl rfl) (Nat.le_of_ble_eq_true rfl) (sa_of (gs_eq (gs_lt h4)) (C_whasHandFor (sa_mk (by decide) (gs_ne (by decide) h3) rfl (gs_eq (gs_lt h4))) hiw.1 (by omega) hc hk ?_))
        dsimp only [pushR]
        rw [set_same (gs_eq (gs_lt h4))]
        refine wp_if_eq 52 dX3_lookAll_32 rfl (by first | assumption | exact hR _ | (unfold r32; omega)) (fun c32 => ?_) (fun c32 => ?_)
        · refine wp_iinc (L' := [some (vR 8), some (vI (bs w)), some (vI k), some (vI (bs lk)), some (vI (c + 1))]) dX3_lookAll_52 rfl rfl ?_
          refine wp_goto 5 dX3_lookAll_55 rfl ?_
          rw [if_neg (by omega)] at hQ
          exact ih (c + 1) lk f g B (by omega) (by omega) hA hB (by omega) hl hQ
        · refine wp_aload_n dX3_lookAll_35 rfl ?_
          refine wp_getf dX3_lookAll_36 fX3_9 (gs_ne (by decide) h8) rfl ?_
          refine wp_iload dX3_lookAll_39 rfl ?_
          refine wp_iv1 dX3_lookAll_41 VX5_lookUp lX3_61 (gs_ne (by decide) h3) (rq0 rfl rfl) (Nat.le_of_ble_eq_true rfl) (sa_of (gs_eq (gs_lt h4)) (C_wlookUp (sa_mk (by decide) (gs_ne (by decide) h3) rfl (gs_eq (gs_lt h4))) hiw.1 (by omega) hc ?_))
          dsimp only [pushR]
          rw [List.set_set]
          refine wp_pop dX3_lookAll_44 rfl ?_
          refine wp_iload_n dX3_lookAll_45 rfl ?_
          refine wp_iconst dX3_lookAll_46 ?_
          refine wp_iload dX3_lookAll_47 rfl ?_
          refine wp_ishl (z := pw c) dX3_lookAll_49 (sh_1 (by omega)) ?_
          refine wp_ior (z := bs (ud lk c 1)) dX3_lookAll_50 (ao_bs hl.b (by omega)) ?_
          refine wp_istore_n (L' := [some (vR 8), some (vI (bs w)), some (vI k), some (vI (bs (ud lk c 1))), some (vI c)]) dX3_lookAll_51 (by decide) rfl ?_
          refine wp_iinc (L' := [some (vR 8), some (vI (bs w)), some (vI k), some (vI (bs (ud lk c 1))), some (vI (c + 1))]) dX3_lookAll_52 rfl rfl ?_
          refine wp_goto 5 dX3_lookAll_55 rfl ?_
          rw [if_pos (by omega)] at hQ
          exact ih (c + 1) _ _ _ (B + 1000) (by omega) (by omega) q.2 (by omega) (by omega) (hl.s hc) hQ
theorem C_lookAll {k B : Int} {w f g : Int → Int} (h8 : h[8]? = some (oO 3 [vR 3, vI r0, vI l0, vI v0, vI f0])) (h3 : h[3]? = some (oO 5 [vR 4])) (h4 : h[4]? = some (oI 1060 tf)) (hk : 0 ≤ k ∧ k < 10) (hA : AK B f g) (hB : 1000 ≤ B) (hBB : B + 6000 ≤ 8000000) (hw : WB w) (hQ : Q (some (vI (bs (cL k 6 0 w z0 f).1))) (h.set 4 (oI 1060 (cL k 6 0 w z0 f).2))) : Cl X kX3_lookAll [vR 8, vI (bs w), vI k] (h.set 4 (oI 1060 f)) Q := by
  refine cl_of rfl (Nat.le_of_ble_eq_true rfl) rfl ?_
  refine wp_iconst dX3_lookAll_0 ?_
  refine wp_istore_n (L' := [some (vR 8), some (vI (bs w)), some (vI k), some (vI 0), none]) dX3_lookAll_1 (by decide) rfl ?_
  refine wp_iconst dX3_lookAll_2 ?_
  refine wp_istore (L' := [some (vR 8), some (vI (bs w)), some (vI k), some (vI 0), some (vI 0)]) dX3_lookAll_3 (by decide) rfl ?_
  exact lp_la h8 h3 h4 hk hw 6 0 z0 f g B (by omega) (by omega) hA hB (by omega) WB.z0 hQ
set_option maxHeartbeats 2000000 in
theorem lp_fa {w lk : Int → Int} (h8 : h[8]? = some (oO 3 [vR 3, vI r0, vI l0, vI v0, vI f0])) (h3 : h[3]? = some (oO 5 [vR 4])) (h4 : h[4]? = some (oI 1060 tf)) (hw : WB w) (hl : WB lk) : ∀ (m : Nat) (c : Int) (f g : Int → Int) (B : Int), c + m = 6 → 0 ≤ c → AK B f g → 1000 ≤ B → B + 1000 * m ≤ 8000000 → Q (some (vI (bs (wmL w lk)))) (h.set 4 (oI 1060 (cFl m c lk f))) → Wp X kX3_fillAll 2 [some (vR 8), some (vI (bs w)), some (vI (bs lk)), some (vI c)] [] (h.set 4 (oI 1060 f)) b Q := by
  intro m
  induction m with
  | zero =>
    intro c f g B q1 q2 hA hB hBB hQ
    refine wp_iload_n dX3_fillAll_2 rfl ?_
    refine wp_bipush dX3_fillAll_3 rfl ?_
    refine wp_icmp_ge 32 dX3_fillAll_5 rfl (by first | assumption | exact hR _ | (unfold r32; omega)) ⟨by omega, by omega⟩ (fun c5 => ?_) (fun c5 => ?_)
    · refine wp_iload_n dX3_fillAll_32 rfl ?_
      refine wp_iload_n dX3_fillAll_33 rfl ?_
      refine wp_iconst dX3_fillAll_34 ?_
      refine wp_ixor (z := -bs lk - 1) dX3_fillAll_35 (xr_bs hl) ?_
      refine wp_iand (z := bs (wmL w lk)) dX3_fillAll_36 (am_bs hw hl) ?_
      exact wp_iret dX3_fillAll_37 rfl hQ
    · exfalso; omega
  | succ m ih =>
    intro c f g B q1 q2 hA hB hBB hQ
    have hc : 0 ≤ c ∧ c < 6 := by omega
    have hiw := hA.iw hB
    have q := hA.fill (c := c) ⟨hB, by omega⟩ hc
    have w01 := hl c
    unfold cFl stF at hQ
    refine wp_iload_n dX3_fillAll_2 rfl ?_
    refine wp_bipush dX3_fillAll_3 rfl ?_
    refine wp_icmp_ge 32 dX3_fillAll_5 rfl (by first | assumption | exact hR _ | (unfold r32; omega)) ⟨by omega, by omega⟩ (fun c5 => ?_) (fun c5 => ?_)
    · exfalso; omega
    · refine wp_iload_n dX3_fillAll_8 rfl ?_
      refine wp_iload_n dX3_fillAll_9 rfl ?_
      refine wp_ishr (z := bs lk / pw c) dX3_fillAll_10 (sr_bs hl hc) ?_
      refine wp_iconst dX3_fillAll_11 ?_
      refine wp_iand (z := lk c) dX3_fillAll_12 (s1_bs hl hc) ?_
      refine wp_iconst dX3_fillAll_13 ?_
      refine wp_icmp_ne 26 dX3_fillAll_14 rfl (by first | assumption | exact hR _ | (unfold r32; omega)) ⟨by omega, by omega⟩ (fun c14 => ?_) (fun c14 => ?_)
      · refine wp_iinc (L' := [some (vR 8), some (vI (bs w)), some (vI (bs lk)), some (vI (c + 1))]) dX3_fillAll_26 rfl rfl ?_
        refine wp_goto 2 dX3_fillAll_29 rfl ?_
        rw [if_neg (by omega)] at hQ
        exact ih (c + 1) f g B (by omega) (by omega) hA hB (by omega) hQ
      · refine wp_aload_n dX3_fillAll_17 rfl ?_
        refine wp_getf dX3_fillAll_18 fX3_9 (gs_ne (by decide) h8) rfl ?_
        refine wp_iload_n dX3_fillAll_21 rfl ?_
        refine wp_iv1 dX3_fillAll_22 VX5_bringIn lX3_64 (gs_ne (by decide) h3) (rq0 rfl rfl) (Nat.le_of_ble_eq_true rfl) (sa_of (gs_eq (gs_lt h4)) (C_wbringIn (sa_mk (by decide) (gs_ne (by decide) h3) rfl (gs_eq (gs_lt h4))) hiw.1 (by omega) hc hiw.2 ?_))
        dsimp only [pushR]
        rw [List.set_set]
        refine wp_pop dX3_fillAll_25 rfl ?_
        refine wp_iinc (L' := [some (vR 8), some (vI (bs w)), some (vI (bs lk)), some (vI (c + 1))]) dX3_fillAll_26 rfl rfl ?_
        refine wp_goto 2 dX3_fillAll_29 rfl ?_
        rw [if_pos (by omega)] at hQ
        exact ih (c + 1) _ _ (B + 1000) (by omega) (by omega) q.2 (by omega) (by omega) hQ
theorem C_fillAll {B : Int} {w lk f g : Int → Int} (h8 : h[8]? = some (oO 3 [vR 3, vI r0, vI l0, vI v0, vI f0])) (h3 : h[3]? = some (oO 5 [vR 4])) (h4 : h[4]? = some (oI 1060 tf)) (hA : AK B f g) (hB : 1000 ≤ B) (hBB : B + 6000 ≤ 8000000) (hw : WB w) (hl : WB lk) (hQ : Q (some (vI (bs (wmL w lk)))) (h.set 4 (oI 1060 (cFl 6 0 lk f)))) : Cl X kX3_fillAll [vR 8, vI (bs w), vI (bs lk)] (h.set 4 (oI 1060 f)) Q := by
  refine cl_of rfl (Nat.le_of_ble_eq_true rfl) rfl ?_
  refine wp_iconst dX3_fillAll_0 ?_
  refine wp_istore_n (L' := [some (vR 8), some (vI (bs w)), some (vI (bs lk)), some (vI 0)]) dX3_fillAll_1 (by decide) rfl ?_
  exact lp_fa h8 h3 h4 hw hl 6 0 f g B (by omega) (by omega) hA hB (by omega) hQ
end SU
