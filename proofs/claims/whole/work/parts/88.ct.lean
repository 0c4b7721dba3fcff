/-! count, both faces, and alike -/
def rc1 (g : Int → Int) : Nat → Int → Int → Int
  | 0, _, n => n
  | m + 1, k, n => rc1 g m (k + 1) (n + entN g k)
def rc2 (g : Int → Int) : Nat → Int → Int → Int
  | 0, _, n => n
  | m + 1, k, n => if g 0 < g (702 + 3 * k) then rc2 g m (k + 1) (n + 1) else rc2 g m (k + 1) (n + 0)
def rc3 (g : Int → Int) : Nat → Int → Int → Int
  | 0, _, n => n
  | m + 1, k, n => if g (942 + k) ≤ 0 then rc3 g m (k + 1) (n + 0) else rc3 g m (k + 1) (n + 1)
def rc4 (g : Int → Int) : Nat → Int → Int → Int
  | 0, _, n => n
  | m + 1, k, n => if g (hA k + 1) = -1 then rc4 g m (k + 1) (n + 0) else rc4 g m (k + 1) (n + 1)
def rc6 (g : Int → Int) : Nat → Int → Int → Int
  | 0, _, n => n
  | m + 1, k, n => if g k ≤ 0 then rc6 g m (k + 1) (n + 0) else rc6 g m (k + 1) (n + 1)
section CT
variable {X : XS} {h : AH} {Q : Option AV → AH → Prop} {sp kp : AV} {f g Kp : Int → Int} {dn km ln ik B at_ hr bh ah : Int} {T P PS R Z I : Int → Int} {fs : List AV} {pl : Int → Nat} {K Fs S : Int → Int → Int} {sz : Int → Int}
set_option maxHeartbeats 1000000 in
theorem lp_plansThere {b : Nat × Nat} (h0 : h[0]? = some (oO 6 (cF sp kp))) (hP : PL h pl K Fs S sz) (hR : ∀ j, r32 (sz j)) : ∀ (m : Nat) (k n : Int), k + m = 6 → 0 ≤ k → Q (some (vI (wPt sz m k n))) h → Wp X kX6_plansThere 4 [some (vR 0), some (vI n), some (vI k)] [] h b Q := by
  intro m
  induction m with
  | zero =>
    intro k n q1 q2 hQ
    refine wp_iload_n dX6_plansThere_4 rfl ?_
    refine wp_bipush dX6_plansThere_5 rfl ?_
    refine wp_icmp_ge 31 dX6_plansThere_7 rfl (by first | assumption | exact hR _ | exact bI_r _ | (unfold r32; omega)) ⟨by omega, by omega⟩ (fun c7 => ?_) (fun c7 => ?_)
    · refine wp_iload_n dX6_plansThere_31 rfl ?_
      exact wp_iret dX6_plansThere_32 rfl (by unfold wPt at hQ; exact hQ)
    · exfalso; omega
  | succ m ih =>
    intro k n q1 q2 hQ
    unfold wPt at hQ
    refine wp_iload_n dX6_plansThere_4 rfl ?_
    refine wp_bipush dX6_plansThere_5 rfl ?_
    refine wp_icmp_ge 31 dX6_plansThere_7 rfl (by first | assumption | exact hR _ | exact bI_r _ | (unfold r32; omega)) ⟨by omega, by omega⟩ (fun c7 => ?_) (fun c7 => ?_)
    · refine wp_iload_n dX6_plansThere_31 rfl ?_
      exact wp_iret dX6_plansThere_32 rfl (False.elim (by omega))
    · refine wp_aload_n dX6_plansThere_10 rfl ?_
      refine wp_getf dX6_plansThere_11 fX6_54 h0 rfl ?_
      refine wp_iload_n dX6_plansThere_14 rfl ?_
      refine wp_aav (j' := (pl k)) dX6_plansThere_15 hP.1 (by decide) (by omega) (plF_at (by omega)) ?_
      refine wp_getf dX6_plansThere_16 fX6_323 (hP.2.1 k (by omega)).2.1 rfl ?_
      refine wp_if_le 25 dX6_plansThere_19 rfl (by first | assumption | exact hR _ | exact bI_r _ | (unfold r32; omega)) (fun c19 => ?_) (fun c19 => ?_)
      · refine wp_iinc (L' := [some (vR 0), some (vI n), some (vI (k + 1))]) dX6_plansThere_25 rfl rfl ?_
        refine wp_goto 4 dX6_plansThere_28 rfl ?_
        first | (rw [if_pos (by first | assumption | omega)] at hQ; exact ih (k + 1) _ (by omega) (by omega) hQ) | (rw [if_neg (by first | assumption | omega)] at hQ; exact ih (k + 1) _ (by omega) (by omega) hQ) | exact ih (k + 1) _ (by omega) (by omega) hQ
      · refine wp_iinc (L' := [some (vR 0), some (vI (n + 1)), some (vI k)]) dX6_plansThere_22 rfl rfl ?_
        refine wp_iinc (L' := [some (vR 0), some (vI (n + 1)), some (vI (k + 1))]) dX6_plansThere_25 rfl rfl ?_
        refine wp_goto 4 dX6_plansThere_28 rfl ?_
        first | (rw [if_pos (by first | assumption | omega)] at hQ; exact ih (k + 1) _ (by omega) (by omega) hQ) | (rw [if_neg (by first | assumption | omega)] at hQ; exact ih (k + 1) _ (by omega) (by omega) hQ) | exact ih (k + 1) _ (by omega) (by omega) hQ
theorem C_plansThere (h0 : h[0]? = some (oO 6 (cF sp kp))) (hP : PL h pl K Fs S sz) (hR : ∀ j, r32 (sz j)) (hQ : Q (some (vI (wPt sz 6 0 0))) h) : Cl X kX6_plansThere [vR 0] h Q := by
  refine cl_of rfl (Nat.le_of_ble_eq_true rfl) rfl ?_
  refine wp_iconst dX6_plansThere_0 ?_
  refine wp_istore_n (L' := [some (vR 0), some (vI 0), none]) dX6_plansThere_1 (by decide) rfl ?_
  refine wp_iconst dX6_plansThere_2 ?_
  refine wp_istore_n (L' := [some (vR 0), some (vI 0), some (vI 0)]) dX6_plansThere_3 (by decide) rfl ?_
  exact lp_plansThere h0 hP hR 6 0 0 (by omega) (by omega) hQ
def cCount (f : Int → Int) (ln bh : Int) (sz : Int → Int) (i : Int) : Int := if i = 0 then f 1 else if i = 1 then wCt f 5 else if i = 2 then wCt f 10 else if i = 3 then wMk f else if i = 4 then wHd f else if i = 5 then ln else if i = 6 then wPt sz 6 0 0 else if i = 7 then f 0 else if i = 8 then bh else -1
set_option maxHeartbeats 2000000 in
theorem C_ccount {i : Int} (h0 : h[0]? = some (oO 6 (cF sp kp))) (h1 : h[1]? = some (oO 5 fs)) (h1f : fs[0]? = some (vR 2)) (h2 : h[2]? = some (oI 1060 f)) (h5 : h[5]? = some (oO 0 [vR 6, vI hr, vI bh, vI ah])) (h14 : h[14]? = some (oO 4 [vR 15, vI ln, vI at_])) (hP : PL h pl K Fs S sz) (hR2 : ∀ j, r32 (sz j)) (hI : IW B f) (hBB : B ≤ 8000000) (ri : r32 i) (hQ : Q (some (vI (cCount f ln bh sz i))) h) : Cl X kX6_count [vR 0, vI i] h Q := by
  refine cl_of rfl (Nat.le_of_ble_eq_true rfl) rfl ?_
  have hR := hI.r (by omega)
  refine wp_iload_n dX6_count_0 rfl ?_
  rcases Decidable.em (i = 0) with e1_0 | e1_0
  · refine wp_tableIn (off := 51) 52 dX6_count_1 (by first | assumption | exact hR _ | exact bI_r _ | (unfold r32; omega)) (by omega) (by omega) (by rw [e1_0]; rfl) rfl ?_
    refine wp_aload_n dX6_count_52 rfl ?_
    refine wp_getf dX6_count_53 fX6_10 h0 rfl ?_
    refine wp_iv0 dX6_count_56 VX5_writes lX6_169 h1 (rq0 rfl rfl) (Nat.le_of_ble_eq_true rfl) (sa_of h2 (C_wwrites (sa_mk (by decide) h1 h1f h2) rfl ?_))
    dsimp only [pushR]
    rw [set_same h2]
    exact wp_iret dX6_count_59 rfl (by unfold cCount at hQ; (repeat' split at hQ) <;> first | (exfalso; omega) | exact hQ)
  rcases Decidable.em (i = 1) with e1_1 | e1_1
  · refine wp_tableIn (off := 59) 60 dX6_count_1 (by first | assumption | exact hR _ | exact bI_r _ | (unfold r32; omega)) (by omega) (by omega) (by rw [e1_1]; rfl) rfl ?_
    refine wp_aload_n dX6_count_60 rfl ?_
    refine wp_getf dX6_count_61 fX6_10 h0 rfl ?_
    refine wp_iconst dX6_count_64 ?_
    refine wp_iv1 dX6_count_65 VX5_countThere lX6_228 h1 (rq0 rfl rfl) (Nat.le_of_ble_eq_true rfl) (sa_of h2 (C_wcountThere (sa_mk (by decide) h1 h1f h2) hI (by omega) (by omega) ?_))
    dsimp only [pushR]
    rw [set_same h2]
    exact wp_iret dX6_count_68 rfl (by unfold cCount at hQ; (repeat' split at hQ) <;> first | (exfalso; omega) | exact hQ)
  rcases Decidable.em (i = 2) with e1_2 | e1_2
  · refine wp_tableIn (off := 68) 69 dX6_count_1 (by first | assumption | exact hR _ | exact bI_r _ | (unfold r32; omega)) (by omega) (by omega) (by rw [e1_2]; rfl) rfl ?_
    refine wp_aload_n dX6_count_69 rfl ?_
    refine wp_getf dX6_count_70 fX6_10 h0 rfl ?_
    refine wp_bipush dX6_count_73 rfl ?_
    refine wp_iv1 dX6_count_75 VX5_countThere lX6_228 h1 (rq0 rfl rfl) (Nat.le_of_ble_eq_true rfl) (sa_of h2 (C_wcountThere (sa_mk (by decide) h1 h1f h2) hI (by omega) (by omega) ?_))
    dsimp only [pushR]
    rw [set_same h2]
    exact wp_iret dX6_count_78 rfl (by unfold cCount at hQ; (repeat' split at hQ) <;> first | (exfalso; omega) | exact hQ)
  rcases Decidable.em (i = 3) with e1_3 | e1_3
  · refine wp_tableIn (off := 78) 79 dX6_count_1 (by first | assumption | exact hR _ | exact bI_r _ | (unfold r32; omega)) (by omega) (by omega) (by rw [e1_3]; rfl) rfl ?_
    refine wp_aload_n dX6_count_79 rfl ?_
    refine wp_getf dX6_count_80 fX6_10 h0 rfl ?_
    refine wp_iv0 dX6_count_83 VX5_markers lX6_301 h1 (rq0 rfl rfl) (Nat.le_of_ble_eq_true rfl) (sa_of h2 (C_wmarkers (sa_mk (by decide) h1 h1f h2) hI (by omega) ?_))
    dsimp only [pushR]
    rw [set_same h2]
    exact wp_iret dX6_count_86 rfl (by unfold cCount at hQ; (repeat' split at hQ) <;> first | (exfalso; omega) | exact hQ)
  rcases Decidable.em (i = 4) with e1_4 | e1_4
  · refine wp_tableIn (off := 86) 87 dX6_count_1 (by first | assumption | exact hR _ | exact bI_r _ | (unfold r32; omega)) (by omega) (by omega) (by rw [e1_4]; rfl) rfl ?_
    refine wp_aload_n dX6_count_87 rfl ?_
    refine wp_getf dX6_count_88 fX6_10 h0 rfl ?_
    refine wp_iv0 dX6_count_91 VX5_hands lX6_304 h1 (rq0 rfl rfl) (Nat.le_of_ble_eq_true rfl) (sa_of h2 (C_whands (sa_mk (by decide) h1 h1f h2) hI (by omega) ?_))
    dsimp only [pushR]
    rw [set_same h2]
    exact wp_iret dX6_count_94 rfl (by unfold cCount at hQ; (repeat' split at hQ) <;> first | (exfalso; omega) | exact hQ)
  rcases Decidable.em (i = 5) with e1_5 | e1_5
  · refine wp_tableIn (off := 94) 95 dX6_count_1 (by first | assumption | exact hR _ | exact bI_r _ | (unfold r32; omega)) (by omega) (by omega) (by rw [e1_5]; rfl) rfl ?_
    refine wp_aload_n dX6_count_95 rfl ?_
    refine wp_getf dX6_count_96 fX6_48 h0 rfl ?_
    refine wp_getf dX6_count_99 fX6_248 h14 rfl ?_
    exact wp_iret dX6_count_102 rfl (by unfold cCount at hQ; (repeat' split at hQ) <;> first | (exfalso; omega) | exact hQ)
  rcases Decidable.em (i = 6) with e1_6 | e1_6
  · refine wp_tableIn (off := 102) 103 dX6_count_1 (by first | assumption | exact hR _ | exact bI_r _ | (unfold r32; omega)) (by omega) (by omega) (by rw [e1_6]; rfl) rfl ?_
    refine wp_aload_n dX6_count_103 rfl ?_
    refine wp_iv0 dX6_count_104 VX6_plansThere lX6_307 h0 (rq0 rfl rfl) (Nat.le_of_ble_eq_true rfl) (C_plansThere h0 hP hR2 ?_)
    dsimp only [pushR]
    exact wp_iret dX6_count_107 rfl (by unfold cCount at hQ; (repeat' split at hQ) <;> first | (exfalso; omega) | exact hQ)
  rcases Decidable.em (i = 7) with e1_7 | e1_7
  · refine wp_tableIn (off := 107) 108 dX6_count_1 (by first | assumption | exact hR _ | exact bI_r _ | (unfold r32; omega)) (by omega) (by omega) (by rw [e1_7]; rfl) rfl ?_
    refine wp_aload_n dX6_count_108 rfl ?_
    refine wp_getf dX6_count_109 fX6_10 h0 rfl ?_
    refine wp_iv0 dX6_count_112 VX5_now lX6_298 h1 (rq0 rfl rfl) (Nat.le_of_ble_eq_true rfl) (sa_of h2 (C_wnow (sa_mk (by decide) h1 h1f h2) rfl ?_))
    dsimp only [pushR]
    rw [set_same h2]
    exact wp_iret dX6_count_115 rfl (by unfold cCount at hQ; (repeat' split at hQ) <;> first | (exfalso; omega) | exact hQ)
  rcases Decidable.em (i = 8) with e1_8 | e1_8
  · refine wp_tableIn (off := 115) 116 dX6_count_1 (by first | assumption | exact hR _ | exact bI_r _ | (unfold r32; omega)) (by omega) (by omega) (by rw [e1_8]; rfl) rfl ?_
    refine wp_aload_n dX6_count_116 rfl ?_
    refine wp_getf dX6_count_117 fX6_22 h0 rfl ?_
    refine wp_getf dX6_count_120 fX6_132 h5 rfl ?_
    exact wp_iret dX6_count_123 rfl (by unfold cCount at hQ; (repeat' split at hQ) <;> first | (exfalso; omega) | exact hQ)
  refine wp_tableOut 124 dX6_count_1 (by first | assumption | exact hR _ | exact bI_r _ | (unfold r32; omega)) (by omega) rfl ?_
  refine wp_iconst dX6_count_124 ?_
  exact wp_iret dX6_count_125 rfl (by unfold cCount at hQ; (repeat' split at hQ) <;> first | (exfalso; omega) | exact hQ)
set_option maxHeartbeats 1000000 in
theorem lp_rc1 {i at_ ft ac mn om fw mo un : Int} {b : Nat × Nat} (m51 : h[51]? = some (oO 7 (mF dn km ln at_ ft ac mn om fw mo un ik))) (m52 : h[52]? = some (oI 1014 g)) (m57 : h[57]? = some (oI 6 PS)) (hR : ∀ j, r32 (g j)) (hR2 : ∀ j, r32 (PS j)) : ∀ (m : Nat) (k n : Int), k + m = 6 → 0 ≤ k → Q (some (vI (rc1 g m k n))) h → Wp X kX7_count 61 [some (vR 51), some (vI i), some (vI n), some (vI k)] [] h b Q := by
  intro m
  induction m with
  | zero =>
    intro k n q1 q2 hQ
    refine wp_iload_n dX7_count_61 rfl ?_
    refine wp_bipush dX7_count_62 rfl ?_
    refine wp_icmp_ge 81 dX7_count_64 rfl (by first | assumption | exact hR _ | exact bI_r _ | (unfold r32; omega)) ⟨by omega, by omega⟩ (fun c64 => ?_) (fun c64 => ?_)
    · refine wp_iload_n dX7_count_81 rfl ?_
      exact wp_iret dX7_count_82 rfl (by unfold rc1 at hQ; exact hQ)
    · exfalso; omega
  | succ m ih =>
    intro k n q1 q2 hQ
    unfold rc1 at hQ
    refine wp_iload_n dX7_count_61 rfl ?_
    refine wp_bipush dX7_count_62 rfl ?_
    refine wp_icmp_ge 81 dX7_count_64 rfl (by first | exact hR _ | exact hR2 _ | (unfold r32; omega)) ⟨by omega, by omega⟩ (fun c64 => ?_) (fun c64 => ?_)
    · refine wp_iload_n dX7_count_81 rfl ?_
      exact wp_iret dX7_count_82 rfl (False.elim (by omega))
    · refine wp_iload_n dX7_count_67 rfl ?_
      refine wp_aload_n dX7_count_68 rfl ?_
      refine wp_iload_n dX7_count_69 rfl ?_
      refine wp_iv1 dX7_count_70 VX7_entriesIn lX7_131 m51 (rq0 rfl rfl) (Nat.le_of_ble_eq_true rfl) (sa_of m52 (C_entriesIn (sa_mk (by decide) m51 rfl m52) hR (by omega) ?_))
      dsimp only [pushR]
      rw [set_same m52]
      refine wp_iadd dX7_count_73 ?_
      refine wp_istore_n (L' := [some (vR 51), some (vI i), some (vI (n + (entN g k))), some (vI k)]) dX7_count_74 (by decide) rfl ?_
      refine wp_iinc (L' := [some (vR 51), some (vI i), some (vI (n + (entN g k))), some (vI (k + 1))]) dX7_count_75 rfl rfl ?_
      refine wp_goto 61 dX7_count_78 rfl ?_
      first | (rw [if_pos (by first | assumption | omega)] at hQ; exact ih (k + 1) _ (by omega) (by omega) hQ) | (rw [if_neg (by first | assumption | omega)] at hQ; exact ih (k + 1) _ (by omega) (by omega) hQ) | exact ih (k + 1) _ (by omega) (by omega) hQ
set_option maxHeartbeats 1000000 in
theorem lp_rc2 {i at_ ft ac mn om fw mo un : Int} {b : Nat × Nat} (m51 : h[51]? = some (oO 7 (mF dn km ln at_ ft ac mn om fw mo un ik))) (m52 : h[52]? = some (oI 1014 g)) (m57 : h[57]? = some (oI 6 PS)) (hR : ∀ j, r32 (g j)) (hR2 : ∀ j, r32 (PS j)) : ∀ (m : Nat) (k n : Int), k + m = 60 → 0 ≤ k → Q (some (vI (rc2 g m k n))) h → Wp X kX7_count 85 [some (vR 51), some (vI i), some (vI n), some (vI k)] [] h b Q := by
  intro m
  induction m with
  | zero =>
    intro k n q1 q2 hQ
    refine wp_iload_n dX7_count_85 rfl ?_
    refine wp_bipush dX7_count_86 rfl ?_
    refine wp_icmp_ge 119 dX7_count_88 rfl (by first | assumption | exact hR _ | exact bI_r _ | (unfold r32; omega)) ⟨by omega, by omega⟩ (fun c88 => ?_) (fun c88 => ?_)
    · refine wp_iload_n dX7_count_119 rfl ?_
      exact wp_iret dX7_count_120 rfl (by unfold rc2 at hQ; exact hQ)
    · exfalso; omega
  | succ m ih =>
    intro k n q1 q2 hQ
    unfold rc2 at hQ
    refine wp_iload_n dX7_count_85 rfl ?_
    refine wp_bipush dX7_count_86 rfl ?_
    refine wp_icmp_ge 119 dX7_count_88 rfl (by first | exact hR _ | exact hR2 _ | (unfold r32; omega)) ⟨by omega, by omega⟩ (fun c88 => ?_) (fun c88 => ?_)
    · refine wp_iload_n dX7_count_119 rfl ?_
      exact wp_iret dX7_count_120 rfl (False.elim (by omega))
    · refine wp_iload_n dX7_count_91 rfl ?_
      refine wp_aload_n dX7_count_92 rfl ?_
      refine wp_sipush dX7_count_93 rfl ?_
      refine wp_iconst dX7_count_96 ?_
      refine wp_iload_n dX7_count_97 rfl ?_
      refine wp_imul dX7_count_98 ?_
      refine wp_iadd dX7_count_99 ?_
      refine wp_iv1 dX7_count_100 VX7_isThere lX7_115 m51 (rq0 rfl rfl) (Nat.le_of_ble_eq_true rfl) (sa_of m52 (C_isThere (sa_mk (by decide) m51 rfl m52) (by omega) rfl rfl (hR _) (hR _) ?_))
      dsimp only [pushR]
      rw [set_same m52]
      refine wp_beq 110 dX7_count_103 rfl (fun c103 => ?_) (fun c103 => ?_)
      · refine wp_iconst dX7_count_110 ?_
        refine wp_iadd dX7_count_111 ?_
        refine wp_istore_n (L' := [some (vR 51), some (vI i), some (vI (n + 0)), some (vI k)]) dX7_count_112 (by decide) rfl ?_
        refine wp_iinc (L' := [some (vR 51), some (vI i), some (vI (n + 0)), some (vI (k + 1))]) dX7_count_113 rfl rfl ?_
        refine wp_goto 85 dX7_count_116 rfl ?_
        first | (rw [if_pos (by first | assumption | omega)] at hQ; exact ih (k + 1) _ (by omega) (by omega) hQ) | (rw [if_neg (by first | assumption | omega)] at hQ; exact ih (k + 1) _ (by omega) (by omega) hQ) | exact ih (k + 1) _ (by omega) (by omega) hQ
      · refine wp_iconst dX7_count_106 ?_
        refine wp_goto 111 dX7_count_107 rfl ?_
        refine wp_iadd dX7_count_111 ?_
        refine wp_istore_n (L' := [some (vR 51), some (vI i), some (vI (n + 1)), some (vI k)]) dX7_count_112 (by decide) rfl ?_
        refine wp_iinc (L' := [some (vR 51), some (vI i), some (vI (n + 1)), some (vI (k + 1))]) dX7_count_113 rfl rfl ?_
        refine wp_goto 85 dX7_count_116 rfl ?_
        first | (rw [if_pos (by first | assumption | omega)] at hQ; exact ih (k + 1) _ (by omega) (by omega) hQ) | (rw [if_neg (by first | assumption | omega)] at hQ; exact ih (k + 1) _ (by omega) (by omega) hQ) | exact ih (k + 1) _ (by omega) (by omega) hQ
set_option maxHeartbeats 1000000 in
theorem lp_rc3 {i at_ ft ac mn om fw mo un : Int} {b : Nat × Nat} (m51 : h[51]? = some (oO 7 (mF dn km ln at_ ft ac mn om fw mo un ik))) (m52 : h[52]? = some (oI 1014 g)) (m57 : h[57]? = some (oI 6 PS)) (hR : ∀ j, r32 (g j)) (hR2 : ∀ j, r32 (PS j)) : ∀ (m : Nat) (k n : Int), k + m = 30 → 0 ≤ k → Q (some (vI (rc3 g m k n))) h → Wp X kX7_count 123 [some (vR 51), some (vI i), some (vI n), some (vI k)] [] h b Q := by
  intro m
  induction m with
  | zero =>
    intro k n q1 q2 hQ
    refine wp_iload_n dX7_count_123 rfl ?_
    refine wp_bipush dX7_count_124 rfl ?_
    refine wp_icmp_ge 156 dX7_count_126 rfl (by first | assumption | exact hR _ | exact bI_r _ | (unfold r32; omega)) ⟨by omega, by omega⟩ (fun c126 => ?_) (fun c126 => ?_)
    · refine wp_iload_n dX7_count_156 rfl ?_
      exact wp_iret dX7_count_157 rfl (by unfold rc3 at hQ; exact hQ)
    · exfalso; omega
  | succ m ih =>
    intro k n q1 q2 hQ
    unfold rc3 at hQ
    refine wp_iload_n dX7_count_123 rfl ?_
    refine wp_bipush dX7_count_124 rfl ?_
    refine wp_icmp_ge 156 dX7_count_126 rfl (by first | exact hR _ | exact hR2 _ | (unfold r32; omega)) ⟨by omega, by omega⟩ (fun c126 => ?_) (fun c126 => ?_)
    · refine wp_iload_n dX7_count_156 rfl ?_
      exact wp_iret dX7_count_157 rfl (False.elim (by omega))
    · refine wp_iload_n dX7_count_129 rfl ?_
      refine wp_aload_n dX7_count_130 rfl ?_
      refine wp_getf dX7_count_131 fX7_9 m51 rfl ?_
      refine wp_sipush dX7_count_134 rfl ?_
      refine wp_iload_n dX7_count_137 rfl ?_
      refine wp_iadd dX7_count_138 ?_
      refine wp_iav (v := g (942 + k)) dX7_count_139 m52 (by decide) (by omega) rfl ?_
      refine wp_if_le 147 dX7_count_140 rfl (by first | exact hR _ | exact hR2 _ | (unfold r32; omega)) (fun c140 => ?_) (fun c140 => ?_)
      · refine wp_iconst dX7_count_147 ?_
        refine wp_iadd dX7_count_148 ?_
        refine wp_istore_n (L' := [some (vR 51), some (vI i), some (vI (n + 0)), some (vI k)]) dX7_count_149 (by decide) rfl ?_
        refine wp_iinc (L' := [some (vR 51), some (vI i), some (vI (n + 0)), some (vI (k + 1))]) dX7_count_150 rfl rfl ?_
        refine wp_goto 123 dX7_count_153 rfl ?_
        first | (rw [if_pos (by first | assumption | omega)] at hQ; exact ih (k + 1) _ (by omega) (by omega) hQ) | (rw [if_neg (by first | assumption | omega)] at hQ; exact ih (k + 1) _ (by omega) (by omega) hQ) | exact ih (k + 1) _ (by omega) (by omega) hQ
      · refine wp_iconst dX7_count_143 ?_
        refine wp_goto 148 dX7_count_144 rfl ?_
        refine wp_iadd dX7_count_148 ?_
        refine wp_istore_n (L' := [some (vR 51), some (vI i), some (vI (n + 1)), some (vI k)]) dX7_count_149 (by decide) rfl ?_
        refine wp_iinc (L' := [some (vR 51), some (vI i), some (vI (n + 1)), some (vI (k + 1))]) dX7_count_150 rfl rfl ?_
        refine wp_goto 123 dX7_count_153 rfl ?_
        first | (rw [if_pos (by first | assumption | omega)] at hQ; exact ih (k + 1) _ (by omega) (by omega) hQ) | (rw [if_neg (by first | assumption | omega)] at hQ; exact ih (k + 1) _ (by omega) (by omega) hQ) | exact ih (k + 1) _ (by omega) (by omega) hQ
set_option maxHeartbeats 1000000 in
theorem lp_rc4 {i at_ ft ac mn om fw mo un : Int} {b : Nat × Nat} (m51 : h[51]? = some (oO 7 (mF dn km ln at_ ft ac mn om fw mo un ik))) (m52 : h[52]? = some (oI 1014 g)) (m57 : h[57]? = some (oI 6 PS)) (hR : ∀ j, r32 (g j)) (hR2 : ∀ j, r32 (PS j)) : ∀ (m : Nat) (k n : Int), k + m = 6 → 0 ≤ k → Q (some (vI (rc4 g m k n))) h → Wp X kX7_count 160 [some (vR 51), some (vI i), some (vI n), some (vI k)] [] h b Q := by
  intro m
  induction m with
  | zero =>
    intro k n q1 q2 hQ
    refine wp_iload_n dX7_count_160 rfl ?_
    refine wp_bipush dX7_count_161 rfl ?_
    refine wp_icmp_ge 195 dX7_count_163 rfl (by first | assumption | exact hR _ | exact bI_r _ | (unfold r32; omega)) ⟨by omega, by omega⟩ (fun c163 => ?_) (fun c163 => ?_)
    · refine wp_iload_n dX7_count_195 rfl ?_
      exact wp_iret dX7_count_196 rfl (by unfold rc4 at hQ; exact hQ)
    · exfalso; omega
  | succ m ih =>
    intro k n q1 q2 hQ
    have hh := hA_b (c := k) (by omega)
    unfold rc4 at hQ
    refine wp_iload_n dX7_count_160 rfl ?_
    refine wp_bipush dX7_count_161 rfl ?_
    refine wp_icmp_ge 195 dX7_count_163 rfl (by first | exact hR _ | exact hR2 _ | (unfold r32; omega)) ⟨by omega, by omega⟩ (fun c163 => ?_) (fun c163 => ?_)
    · refine wp_iload_n dX7_count_195 rfl ?_
      exact wp_iret dX7_count_196 rfl (False.elim (by omega))
    · refine wp_iload_n dX7_count_166 rfl ?_
      refine wp_aload_n dX7_count_167 rfl ?_
      refine wp_getf dX7_count_168 fX7_9 m51 rfl ?_
      refine wp_iload_n dX7_count_171 rfl ?_
      refine wp_is1 dX7_count_172 SX7_hand lX7_82 (rq0 rfl rfl) (Nat.le_of_ble_eq_true rfl) (C_hand ?_)
      dsimp only [pushR]
      refine wp_iconst dX7_count_175 ?_
      refine wp_iadd dX7_count_176 ?_
      refine wp_iav (v := g (hA k + 1)) dX7_count_177 m52 (by decide) (by omega) rfl ?_
      refine wp_iconst dX7_count_178 ?_
      refine wp_icmp_ne 186 dX7_count_179 rfl (by first | exact hR _ | exact hR2 _ | (unfold r32; omega)) ⟨by omega, by omega⟩ (fun c179 => ?_) (fun c179 => ?_)
      · refine wp_iconst dX7_count_186 ?_
        refine wp_iadd dX7_count_187 ?_
        refine wp_istore_n (L' := [some (vR 51), some (vI i), some (vI (n + 1)), some (vI k)]) dX7_count_188 (by decide) rfl ?_
        refine wp_iinc (L' := [some (vR 51), some (vI i), some (vI (n + 1)), some (vI (k + 1))]) dX7_count_189 rfl rfl ?_
        refine wp_goto 160 dX7_count_192 rfl ?_
        first | (rw [if_pos (by first | assumption | omega)] at hQ; exact ih (k + 1) _ (by omega) (by omega) hQ) | (rw [if_neg (by first | assumption | omega)] at hQ; exact ih (k + 1) _ (by omega) (by omega) hQ) | exact ih (k + 1) _ (by omega) (by omega) hQ
      · refine wp_iconst dX7_count_182 ?_
        refine wp_goto 187 dX7_count_183 rfl ?_
        refine wp_iadd dX7_count_187 ?_
        refine wp_istore_n (L' := [some (vR 51), some (vI i), some (vI (n + 0)), some (vI k)]) dX7_count_188 (by decide) rfl ?_
        refine wp_iinc (L' := [some (vR 51), some (vI i), some (vI (n + 0)), some (vI (k + 1))]) dX7_count_189 rfl rfl ?_
        refine wp_goto 160 dX7_count_192 rfl ?_
        first | (rw [if_pos (by first | assumption | omega)] at hQ; exact ih (k + 1) _ (by omega) (by omega) hQ) | (rw [if_neg (by first | assumption | omega)] at hQ; exact ih (k + 1) _ (by omega) (by omega) hQ) | exact ih (k + 1) _ (by omega) (by omega) hQ
set_option maxHeartbeats 1000000 in
theorem lp_rc6 {i at_ ft ac mn om fw mo un : Int} {b : Nat × Nat} (m51 : h[51]? = some (oO 7 (mF dn km ln at_ ft ac mn om fw mo un ik))) (m52 : h[52]? = some (oI 1014 g)) (m57 : h[57]? = some (oI 6 PS)) (hR : ∀ j, r32 (g j)) (hR2 : ∀ j, r32 (PS j)) : ∀ (m : Nat) (k n : Int), k + m = 6 → 0 ≤ k → Q (some (vI (rc6 PS m k n))) h → Wp X kX7_count 204 [some (vR 51), some (vI i), some (vI n), some (vI k)] [] h b Q := by
  intro m
  induction m with
  | zero =>
    intro k n q1 q2 hQ
    refine wp_iload_n dX7_count_204 rfl ?_
    refine wp_bipush dX7_count_205 rfl ?_
    refine wp_icmp_ge 233 dX7_count_207 rfl (by first | assumption | exact hR _ | exact bI_r _ | (unfold r32; omega)) ⟨by omega, by omega⟩ (fun c207 => ?_) (fun c207 => ?_)
    · refine wp_iload_n dX7_count_233 rfl ?_
      exact wp_iret dX7_count_234 rfl (by unfold rc6 at hQ; exact hQ)
    · exfalso; omega
  | succ m ih =>
    intro k n q1 q2 hQ
    unfold rc6 at hQ
    refine wp_iload_n dX7_count_204 rfl ?_
    refine wp_bipush dX7_count_205 rfl ?_
    refine wp_icmp_ge 233 dX7_count_207 rfl (by first | exact hR _ | exact hR2 _ | (unfold r32; omega)) ⟨by omega, by omega⟩ (fun c207 => ?_) (fun c207 => ?_)
    · refine wp_iload_n dX7_count_233 rfl ?_
      exact wp_iret dX7_count_234 rfl (False.elim (by omega))
    · refine wp_iload_n dX7_count_210 rfl ?_
      refine wp_aload_n dX7_count_211 rfl ?_
      refine wp_getf dX7_count_212 fX7_25 m51 rfl ?_
      refine wp_iload_n dX7_count_215 rfl ?_
      refine wp_iav (v := PS k) dX7_count_216 m57 (by decide) (by omega) rfl ?_
      refine wp_if_le 224 dX7_count_217 rfl (by first | exact hR _ | exact hR2 _ | (unfold r32; omega)) (fun c217 => ?_) (fun c217 => ?_)
      · refine wp_iconst dX7_count_224 ?_
        refine wp_iadd dX7_count_225 ?_
        refine wp_istore_n (L' := [some (vR 51), some (vI i), some (vI (n + 0)), some (vI k)]) dX7_count_226 (by decide) rfl ?_
        refine wp_iinc (L' := [some (vR 51), some (vI i), some (vI (n + 0)), some (vI (k + 1))]) dX7_count_227 rfl rfl ?_
        refine wp_goto 204 dX7_count_230 rfl ?_
        first | (rw [if_pos (by first | assumption | omega)] at hQ; exact ih (k + 1) _ (by omega) (by omega) hQ) | (rw [if_neg (by first | assumption | omega)] at hQ; exact ih (k + 1) _ (by omega) (by omega) hQ) | exact ih (k + 1) _ (by omega) (by omega) hQ
      · refine wp_iconst dX7_count_220 ?_
        refine wp_goto 225 dX7_count_221 rfl ?_
        refine wp_iadd dX7_count_225 ?_
        refine wp_istore_n (L' := [some (vR 51), some (vI i), some (vI (n + 1)), some (vI k)]) dX7_count_226 (by decide) rfl ?_
        refine wp_iinc (L' := [some (vR 51), some (vI i), some (vI (n + 1)), some (vI (k + 1))]) dX7_count_227 rfl rfl ?_
        refine wp_goto 204 dX7_count_230 rfl ?_
        first | (rw [if_pos (by first | assumption | omega)] at hQ; exact ih (k + 1) _ (by omega) (by omega) hQ) | (rw [if_neg (by first | assumption | omega)] at hQ; exact ih (k + 1) _ (by omega) (by omega) hQ) | exact ih (k + 1) _ (by omega) (by omega) hQ
def rCount (g PS : Int → Int) (ln dn i : Int) : Int := if i = 0 then g 2 else if i = 1 then rc1 g 6 0 0 else if i = 2 then rc2 g 60 0 0 else if i = 3 then rc3 g 30 0 0 else if i = 4 then rc4 g 6 0 0 else if i = 5 then ln else if i = 6 then rc6 PS 6 0 0 else if i = 7 then g 0 else if i = 8 then dn else -1
set_option maxHeartbeats 2000000 in
theorem C_rcount {i : Int} (hM : MV h g Kp dn km T ln P PS R Z I ik) (hI : IM B g) (hBB : B ≤ 8000000) (hR2 : ∀ j, r32 (PS j)) (ri : r32 i) (hQ : Q (some (vI (rCount g PS ln dn i))) h) : Cl X kX7_count [vR 51, vI i] h Q := by
  refine cl_of rfl (Nat.le_of_ble_eq_true rfl) rfl ?_
  have hR := hI.r (by omega)
  obtain ⟨⟨at_, ft, ac, mn, om, fw, mo, un, m51⟩, m52, m53, m54, -, m56, m57, -, -, -, -, -, -, -, -, m67, m68, m69, -⟩ := id hM
  refine wp_iconst dX7_count_0 ?_
  refine wp_istore_n (L' := [some (vR 51), some (vI i), some (vI 0), none]) dX7_count_1 (by decide) rfl ?_
  refine wp_iload_n dX7_count_2 rfl ?_
  rcases Decidable.em (i = 0) with e3_0 | e3_0
  · refine wp_tableIn (off := 49) 52 dX7_count_3 (by first | assumption | exact hR _ | exact bI_r _ | (unfold r32; omega)) (by omega) (by omega) (by rw [e3_0]; rfl) rfl ?_
    refine wp_aload_n dX7_count_52 rfl ?_
    refine wp_getf dX7_count_53 fX7_9 m51 rfl ?_
    refine wp_iconst dX7_count_56 ?_
    refine wp_iav (v := g 2) dX7_count_57 m52 (by decide) (by omega) rfl ?_
    exact wp_iret dX7_count_58 rfl (by unfold rCount at hQ; (repeat' split at hQ) <;> first | (exfalso; omega) | exact hQ)
  rcases Decidable.em (i = 1) with e3_1 | e3_1
  · refine wp_tableIn (off := 56) 59 dX7_count_3 (by first | assumption | exact hR _ | exact bI_r _ | (unfold r32; omega)) (by omega) (by omega) (by rw [e3_1]; rfl) rfl ?_
    refine wp_iconst dX7_count_59 ?_
    refine wp_istore_n (L' := [some (vR 51), some (vI i), some (vI 0), some (vI 0)]) dX7_count_60 (by decide) rfl ?_
    exact lp_rc1 m51 m52 m57 hR hR2 6 0 0 (by omega) (by omega) (by unfold rCount at hQ; (repeat' split at hQ) <;> first | (exfalso; omega) | exact hQ)
  rcases Decidable.em (i = 2) with e3_2 | e3_2
  · refine wp_tableIn (off := 80) 83 dX7_count_3 (by first | assumption | exact hR _ | exact bI_r _ | (unfold r32; omega)) (by omega) (by omega) (by rw [e3_2]; rfl) rfl ?_
    refine wp_iconst dX7_count_83 ?_
    refine wp_istore_n (L' := [some (vR 51), some (vI i), some (vI 0), some (vI 0)]) dX7_count_84 (by decide) rfl ?_
    exact lp_rc2 m51 m52 m57 hR hR2 60 0 0 (by omega) (by omega) (by unfold rCount at hQ; (repeat' split at hQ) <;> first | (exfalso; omega) | exact hQ)
  rcases Decidable.em (i = 3) with e3_3 | e3_3
  · refine wp_tableIn (off := 118) 121 dX7_count_3 (by first | assumption | exact hR _ | exact bI_r _ | (unfold r32; omega)) (by omega) (by omega) (by rw [e3_3]; rfl) rfl ?_
    refine wp_iconst dX7_count_121 ?_
    refine wp_istore_n (L' := [some (vR 51), some (vI i), some (vI 0), some (vI 0)]) dX7_count_122 (by decide) rfl ?_
    exact lp_rc3 m51 m52 m57 hR hR2 30 0 0 (by omega) (by omega) (by unfold rCount at hQ; (repeat' split at hQ) <;> first | (exfalso; omega) | exact hQ)
  rcases Decidable.em (i = 4) with e3_4 | e3_4
  · refine wp_tableIn (off := 155) 158 dX7_count_3 (by first | assumption | exact hR _ | exact bI_r _ | (unfold r32; omega)) (by omega) (by omega) (by rw [e3_4]; rfl) rfl ?_
    refine wp_iconst dX7_count_158 ?_
    refine wp_istore_n (L' := [some (vR 51), some (vI i), some (vI 0), some (vI 0)]) dX7_count_159 (by decide) rfl ?_
    exact lp_rc4 m51 m52 m57 hR hR2 6 0 0 (by omega) (by omega) (by unfold rCount at hQ; (repeat' split at hQ) <;> first | (exfalso; omega) | exact hQ)
  rcases Decidable.em (i = 5) with e3_5 | e3_5
  · refine wp_tableIn (off := 194) 197 dX7_count_3 (by first | assumption | exact hR _ | exact bI_r _ | (unfold r32; omega)) (by omega) (by omega) (by rw [e3_5]; rfl) rfl ?_
    refine wp_aload_n dX7_count_197 rfl ?_
    refine wp_getf dX7_count_198 fX7_218 m51 rfl ?_
    exact wp_iret dX7_count_201 rfl (by unfold rCount at hQ; (repeat' split at hQ) <;> first | (exfalso; omega) | exact hQ)
  rcases Decidable.em (i = 6) with e3_6 | e3_6
  · refine wp_tableIn (off := 199) 202 dX7_count_3 (by first | assumption | exact hR _ | exact bI_r _ | (unfold r32; omega)) (by omega) (by omega) (by rw [e3_6]; rfl) rfl ?_
    refine wp_iconst dX7_count_202 ?_
    refine wp_istore_n (L' := [some (vR 51), some (vI i), some (vI 0), some (vI 0)]) dX7_count_203 (by decide) rfl ?_
    exact lp_rc6 m51 m52 m57 hR hR2 6 0 0 (by omega) (by omega) (by unfold rCount at hQ; (repeat' split at hQ) <;> first | (exfalso; omega) | exact hQ)
  rcases Decidable.em (i = 7) with e3_7 | e3_7
  · refine wp_tableIn (off := 232) 235 dX7_count_3 (by first | assumption | exact hR _ | exact bI_r _ | (unfold r32; omega)) (by omega) (by omega) (by rw [e3_7]; rfl) rfl ?_
    refine wp_aload_n dX7_count_235 rfl ?_
    refine wp_getf dX7_count_236 fX7_9 m51 rfl ?_
    refine wp_iconst dX7_count_239 ?_
    refine wp_iav (v := g 0) dX7_count_240 m52 (by decide) (by omega) rfl ?_
    exact wp_iret dX7_count_241 rfl (by unfold rCount at hQ; (repeat' split at hQ) <;> first | (exfalso; omega) | exact hQ)
  rcases Decidable.em (i = 8) with e3_8 | e3_8
  · refine wp_tableIn (off := 239) 242 dX7_count_3 (by first | assumption | exact hR _ | exact bI_r _ | (unfold r32; omega)) (by omega) (by omega) (by rw [e3_8]; rfl) rfl ?_
    refine wp_aload_n dX7_count_242 rfl ?_
    refine wp_getf dX7_count_243 fX7_148 m51 rfl ?_
    exact wp_iret dX7_count_246 rfl (by unfold rCount at hQ; (repeat' split at hQ) <;> first | (exfalso; omega) | exact hQ)
  refine wp_tableOut 247 dX7_count_3 (by first | assumption | exact hR _ | exact bI_r _ | (unfold r32; omega)) (by omega) rfl ?_
  refine wp_iconst dX7_count_247 ?_
  exact wp_iret dX7_count_248 rfl (by unfold rCount at hQ; (repeat' split at hQ) <;> first | (exfalso; omega) | exact hQ)
end CT
