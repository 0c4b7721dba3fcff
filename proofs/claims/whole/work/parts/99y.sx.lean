/-! storm, the reference; alike -/
def rLd (g : Int → Int) : Int := g 13 + g 14 + g 15
def rStN (k tk : Int) (w g : Int → Int) := stR (rRnd k tk) 6 0 w g
def rStorm (k tk : Int) (w g : Int → Int) (i : Int) : Int := if i = 0 then (rStN k tk w g).1 else if i = 1 then rLd (rStN k tk w g).2.2 - rLd g else if i = 2 then cnt w - cnt (rStN k tk w g).2.1 else (rStN k tk w g).2.2 20 - g 20
def smF (hs : Int → Int) : Nat → Int → Int → Int
  | 0, _, n => n
  | m + 1, c, n => smF hs m (c + 1) (n + hs c)
section SX_
variable {X : XS} {h h0 : AH} {Q : Option AV → AH → Prop} {Kp f g : Int → Int} {dn km ln at_ ft ac mn om fw mo un ik x k tk B : Int} {b : Nat × Nat} {T P PS R Z I : Int → Int}
theorem C_rloads (m51 : h[51]? = some (oO 7 (mF dn km ln at_ ft ac mn om fw mo un ik))) (m52 : h[52]? = some (oI 1014 g)) (hQ : Q (some (vI (rLd g))) h) : Cl X kX7_loads [vR 51] h Q := by
  refine cl_of rfl (Nat.le_of_ble_eq_true rfl) rfl ?_
  refine wp_aload_n dX7_loads_0 rfl ?_
  refine wp_getf dX7_loads_1 fX7_9 m51 rfl ?_
  refine wp_bipush dX7_loads_4 rfl ?_
  refine wp_iav (v := g 13) dX7_loads_6 m52 (by decide) (by omega) rfl ?_
  refine wp_aload_n dX7_loads_7 rfl ?_
  refine wp_getf dX7_loads_8 fX7_9 m51 rfl ?_
  refine wp_bipush dX7_loads_11 rfl ?_
  refine wp_iav (v := g 14) dX7_loads_13 m52 (by decide) (by omega) rfl ?_
  refine wp_iadd dX7_loads_14 ?_
  refine wp_aload_n dX7_loads_15 rfl ?_
  refine wp_getf dX7_loads_16 fX7_9 m51 rfl ?_
  refine wp_bipush dX7_loads_19 rfl ?_
  refine wp_iav (v := g 15) dX7_loads_21 m52 (by decide) (by omega) rfl ?_
  refine wp_iadd dX7_loads_22 ?_
  exact wp_iret dX7_loads_23 rfl hQ
set_option maxHeartbeats 1000000 in
theorem lp_ah {wt hs : Int → Int} (s51 : h[51]? = some (oO 7 (mF dn km ln at_ ft ac mn om fw mo un ik))) (s64 : h[64]? = some (oZ 6 hs)) (hx : 0 ≤ x ∧ x < 64) (hr : HR (clF x) wt hs) (hw : WB wt) (hQ1 : cnt wt = 0 → Q (some (vI 1)) h) (hQ0 : cnt wt ≠ 0 → Q (some (vI 0)) h) : ∀ (m : Nat) (c : Int), c + m = 6 → 0 ≤ c → (∀ j, 0 ≤ j → j < c → wt j = 0) → Wp X kX7_allHave 2 [some (vR 51), some (vI x), some (vI c)] [] h b Q := by
  intro m
  induction m with
  | zero =>
    intro c q1 q2 hz
    have z : ∀ j, 0 ≤ j → j < 10 → wt j = 0 := fun j a d => by rcases (by omega : j < c ∨ 6 ≤ j) with e | e; exact hz j a e; exact hw.z e
    refine wp_iload_n dX7_allHave_2 rfl ?_
    refine wp_bipush dX7_allHave_3 rfl ?_
    refine wp_icmp_ge 34 dX7_allHave_5 rfl (by first | assumption | exact hR _ | (unfold r32; omega)) ⟨by omega, by omega⟩ (fun c5 => ?_) (fun c5 => ?_)
    · refine wp_iconst dX7_allHave_34 ?_
      exact wp_zret dX7_allHave_35 rfl (Or.inr rfl) (hQ1 (cnt0 z))
    · exfalso; omega
  | succ m ih =>
    intro c q1 q2 hz
    have hc : 0 ≤ c ∧ c < 6 := by omega
    have hrc := hr c hc
    have c01 := clF_wb (x := x) c
    refine wp_iload_n dX7_allHave_2 rfl ?_
    refine wp_bipush dX7_allHave_3 rfl ?_
    refine wp_icmp_ge 34 dX7_allHave_5 rfl (by first | assumption | exact hR _ | (unfold r32; omega)) ⟨by omega, by omega⟩ (fun c5 => ?_) (fun c5 => ?_)
    · refine wp_iconst dX7_allHave_34 ?_
      exact wp_zret dX7_allHave_35 rfl (Or.inr rfl) (by first | (exfalso; omega) | exact hQ0 (by have := cnt_pos (b := wt) (k := c) hw.b (by omega) (by omega); omega))
    · refine wp_iload_n dX7_allHave_8 rfl ?_
      refine wp_iload_n dX7_allHave_9 rfl ?_
      refine wp_ishr (z := x / pw c) dX7_allHave_10 (sr_x hx hc).1 ?_
      refine wp_iconst dX7_allHave_11 ?_
      refine wp_iand (z := clF x c) dX7_allHave_12 (s1_x hx hc) ?_
      refine wp_iconst dX7_allHave_13 ?_
      refine wp_icmp_ne 28 dX7_allHave_14 rfl (by first | assumption | exact hR _ | (unfold r32; omega)) ⟨by omega, by omega⟩ (fun c14 => ?_) (fun c14 => ?_)
      · refine wp_iinc (L' := [some (vR 51), some (vI x), some (vI (c + 1))]) dX7_allHave_28 rfl rfl ?_
        refine wp_goto 2 dX7_allHave_31 rfl ?_
        exact ih (c + 1) (by omega) (by omega) (fun j a d => by rcases Decidable.em (j = c) with e | e; rw [e]; omega; exact hz j a (by omega))
      · refine wp_aload_n dX7_allHave_17 rfl ?_
        refine wp_getf dX7_allHave_18 fX7_64 s51 rfl ?_
        refine wp_iload_n dX7_allHave_21 rfl ?_
        refine wp_zav (v := hs c) dX7_allHave_22 s64 (by decide) (by omega) rfl ?_
        refine wp_if_ne 28 dX7_allHave_23 rfl (by first | assumption | exact hR _ | (unfold r32; omega)) (fun c23 => ?_) (fun c23 => ?_)
        · refine wp_iinc (L' := [some (vR 51), some (vI x), some (vI (c + 1))]) dX7_allHave_28 rfl rfl ?_
          refine wp_goto 2 dX7_allHave_31 rfl ?_
          exact ih (c + 1) (by omega) (by omega) (fun j a d => by rcases Decidable.em (j = c) with e | e; rw [e]; omega; exact hz j a (by omega))
        · refine wp_iconst dX7_allHave_26 ?_
          exact wp_zret dX7_allHave_27 rfl (Or.inl rfl) (by first | (exfalso; omega) | exact hQ0 (by have := cnt_pos (b := wt) (k := c) hw.b (by omega) (by omega); omega))
theorem C_allHave {wt hs : Int → Int} (s51 : h[51]? = some (oO 7 (mF dn km ln at_ ft ac mn om fw mo un ik))) (s64 : h[64]? = some (oZ 6 hs)) (hx : 0 ≤ x ∧ x < 64) (hr : HR (clF x) wt hs) (hw : WB wt) (hQ1 : cnt wt = 0 → Q (some (vI 1)) h) (hQ0 : cnt wt ≠ 0 → Q (some (vI 0)) h) : Cl X kX7_allHave [vR 51, vI x] h Q := by
  refine cl_of rfl (Nat.le_of_ble_eq_true rfl) rfl ?_
  refine wp_iconst dX7_allHave_0 ?_
  refine wp_istore_n (L' := [some (vR 51), some (vI x), some (vI 0)]) dX7_allHave_1 (by decide) rfl ?_
  exact lp_ah s51 s64 hx hr hw hQ1 hQ0 6 0 (by omega) (by omega) (fun j a d => by omega)
set_option maxHeartbeats 2000000 in
theorem lp_rs {i la fa : Int} {y8 y9 : Option AV} (m51 : h0[51]? = some (oO 7 (mF dn km ln at_ ft ac mn om fw mo un ik))) (hx : 0 ≤ x ∧ x < 64) (hk : 0 ≤ k ∧ k < 10) (ht : tk = 0 ∨ tk = 1) : ∀ (m : Nat) (n : Int) (wt f g hs : Int → Int) (B : Int) (h : AH), n + m = 6 → 0 ≤ n → AK B f g → 1000 ≤ B → B + 18000 * m ≤ 8000000 → SR h0 h g hs → HR (clF x) wt hs → WB wt → (∀ h' hs', SR h0 h' (stR (rRnd k tk) m n wt g).2.2 hs' → HR (clF x) (stR (rRnd k tk) m n wt g).2.1 hs' → Wp X kX7_storm 130 [some (vR 51), some (vI x), some (vI k), some (vI tk), some (vI i), some (vI la), some (vI fa), some (vI (stR (rRnd k tk) m n wt g).1), y8, y9] [] h' b Q) → Wp X kX7_storm 102 [some (vR 51), some (vI x), some (vI k), some (vI tk), some (vI i), some (vI la), some (vI fa), some (vI n), y8, y9] [] h b Q := by
  intro m
  induction m with
  | zero =>
    intro n wt f g hs B h q1 q2 hK hB hBB hs0 hr hw hQ
    obtain ⟨s1, s2, s52, s64, ⟨Lo, s65⟩⟩ := id hs0
    have s51 := (s2 51 (by decide) (by decide) (by decide)).trans m51
    refine wp_iload dX7_storm_102 rfl ?_
    refine wp_bipush dX7_storm_104 rfl ?_
    refine wp_icmp_ge 130 dX7_storm_106 rfl (by first | assumption | exact hR _ | (unfold r32; omega)) ⟨by omega, by omega⟩ (fun c106 => ?_) (fun c106 => ?_)
    · exact hQ _ _ hs0 hr
    · exfalso; omega
  | succ m ih =>
    intro n wt f g hs B h q1 q2 hK hB hBB hs0 hr hw hQ
    obtain ⟨s1, s2, s52, s64, ⟨Lo, s65⟩⟩ := id hs0
    have s51 := (s2 51 (by decide) (by decide) (by decide)).trans m51
    have rq := rnd_eq (w := wt) (tk := tk) hk hK hB (by omega)
    unfold stR at hQ
    refine wp_iload dX7_storm_102 rfl ?_
    refine wp_bipush dX7_storm_104 rfl ?_
    refine wp_icmp_ge 130 dX7_storm_106 rfl (by first | assumption | exact hR _ | (unfold r32; omega)) ⟨by omega, by omega⟩ (fun c106 => ?_) (fun c106 => ?_)
    · first | (exfalso; omega) | exact hQ _ _ hs0 hr
    · refine wp_aload_n dX7_storm_109 rfl ?_
      refine wp_iload_n dX7_storm_110 rfl ?_
      refine wp_iv1 dX7_storm_111 VX7_allHave lX7_313 s51 (rq0 rfl rfl) (Nat.le_of_ble_eq_true rfl) (C_allHave s51 s64 hx hr hw (fun ah => ?_) (fun ah => ?_))
      · dsimp only [pushR]
        rw [if_pos ah] at hQ
        refine wp_if_ne 130 dX7_storm_114 rfl ⟨by omega, by omega⟩ (fun c114 => ?_) (fun c114 => absurd c114 (by omega))
        first | (exfalso; omega) | exact hQ _ _ hs0 hr
      · dsimp only [pushR]
        rw [if_neg ah] at hQ
        refine wp_if_ne 130 dX7_storm_114 rfl ⟨by omega, by omega⟩ (fun c114 => absurd c114 (by omega)) (fun c114 => ?_)
        refine wp_aload_n dX7_storm_117 rfl ?_
        refine wp_iload_n dX7_storm_118 rfl ?_
        refine wp_iload_n dX7_storm_119 rfl ?_
        refine wp_iload_n dX7_storm_120 rfl ?_
        refine wp_iv3 dX7_storm_121 VX7_stormRound lX7_316 s51 (rq0 rfl rfl) (Nat.le_of_ble_eq_true rfl) (C_stormRound m51 hx hk ht hK hB (by omega) hs0 hr hw (fun h1 hs1 t1 r1 => ?_))
        dsimp only [pushR]
        refine wp_iinc (L' := [some (vR 51), some (vI x), some (vI k), some (vI tk), some (vI i), some (vI la), some (vI fa), some (vI (n + 1)), y8, y9]) dX7_storm_124 rfl rfl ?_
        refine wp_goto 102 dX7_storm_127 rfl ?_
        exact ih (n + 1) _ _ _ hs1 (B + 18000) h1 (by omega) (by omega) rq.2 (by omega) (by omega) t1 r1 (wRnd (f := f) (g := g) hw).2 hQ
set_option maxHeartbeats 1000000 in
theorem lp_cn {i la fa r : Int} {hs : Int → Int} (s51 : h[51]? = some (oO 7 (mF dn km ln at_ ft ac mn om fw mo un ik))) (s64 : h[64]? = some (oZ 6 hs)) (hr : ∀ j, 0 ≤ j ∧ j < 6 → hs j = 0 ∨ hs j = 1) : ∀ (m : Nat) (c n : Int), c + m = 6 → 0 ≤ c → Wp X kX7_storm 169 [some (vR 51), some (vI x), some (vI k), some (vI tk), some (vI i), some (vI la), some (vI fa), some (vI r), some (vI (smF hs m c n)), some (vI 6)] [] h b Q → Wp X kX7_storm 136 [some (vR 51), some (vI x), some (vI k), some (vI tk), some (vI i), some (vI la), some (vI fa), some (vI r), some (vI n), some (vI c)] [] h b Q := by
  intro m
  induction m with
  | zero =>
    intro c n q1 q2 hQ
    have e : c = 6 := by omega
    subst e
    refine wp_iload dX7_storm_136 rfl ?_
    refine wp_bipush dX7_storm_138 rfl ?_
    refine wp_icmp_ge 169 dX7_storm_140 rfl ⟨by omega, by omega⟩ ⟨by omega, by omega⟩ (fun c140 => ?_) (fun c140 => absurd c140 (by omega))
    exact hQ
  | succ m ih =>
    intro c n q1 q2 hQ
    have hc := hr c (by omega)
    unfold smF at hQ
    refine wp_iload dX7_storm_136 rfl ?_
    refine wp_bipush dX7_storm_138 rfl ?_
    refine wp_icmp_ge 169 dX7_storm_140 rfl (by first | assumption | exact hR _ | (unfold r32; omega)) ⟨by omega, by omega⟩ (fun c140 => ?_) (fun c140 => ?_)
    · exfalso; omega
    · refine wp_iload dX7_storm_143 rfl ?_
      refine wp_aload_n dX7_storm_145 rfl ?_
      refine wp_getf dX7_storm_146 fX7_64 s51 rfl ?_
      refine wp_iload dX7_storm_149 rfl ?_
      refine wp_zav (v := hs c) dX7_storm_151 s64 (by decide) (by omega) rfl ?_
      refine wp_if_eq 159 dX7_storm_152 rfl (by first | assumption | exact hR _ | (unfold r32; omega)) (fun c152 => ?_) (fun c152 => ?_)
      · refine wp_iconst dX7_storm_159 ?_
        refine wp_iadd dX7_storm_160 ?_
        refine wp_istore (L' := [some (vR 51), some (vI x), some (vI k), some (vI tk), some (vI i), some (vI la), some (vI fa), some (vI r), some (vI (n + 0)), some (vI c)]) dX7_storm_161 (by decide) rfl ?_
        refine wp_iinc (L' := [some (vR 51), some (vI x), some (vI k), some (vI tk), some (vI i), some (vI la), some (vI fa), some (vI r), some (vI (n + 0)), some (vI (c + 1))]) dX7_storm_163 rfl rfl ?_
        refine wp_goto 136 dX7_storm_166 rfl ?_
        rw [show hs c = 0 by omega] at hQ
        exact ih (c + 1) _ (by omega) (by omega) hQ
      · refine wp_iconst dX7_storm_155 ?_
        refine wp_goto 160 dX7_storm_156 rfl ?_
        refine wp_iadd dX7_storm_160 ?_
        refine wp_istore (L' := [some (vR 51), some (vI x), some (vI k), some (vI tk), some (vI i), some (vI la), some (vI fa), some (vI r), some (vI (n + 1)), some (vI c)]) dX7_storm_161 (by decide) rfl ?_
        refine wp_iinc (L' := [some (vR 51), some (vI x), some (vI k), some (vI tk), some (vI i), some (vI la), some (vI fa), some (vI r), some (vI (n + 1)), some (vI (c + 1))]) dX7_storm_163 rfl rfl ?_
        refine wp_goto 136 dX7_storm_166 rfl ?_
        rw [show hs c = 1 by omega] at hQ
        exact ih (c + 1) _ (by omega) (by omega) hQ
theorem MV.st {h' : AH} (hM : MV h g Kp dn km T ln P PS R Z I ik) (h52 : h'[52]? = some (oI 1014 g)) (h59 : ∃ f, h'[59]? = some (oI 1014 f)) (h64 : ∃ f, h'[64]? = some (oZ 6 f)) (h65 : ∃ f, h'[65]? = some (oZ 6 f)) (fr : ∀ i, i ≠ 52 → i ≠ 59 → i ≠ 64 → i ≠ 65 → h'[i]? = h[i]?) : MV h' g Kp dn km T ln P PS R Z I ik := by
  obtain ⟨⟨a1, a2, a3, a4, a5, a6, a7, a8, q0⟩, q1, q2, q3, ⟨f5, q4⟩, q5, q6, ⟨f7, q7⟩, ⟨f8, q8⟩, ⟨f9, q9⟩, ⟨f10, q10⟩, ⟨f11, q11⟩, ⟨f12, q12⟩, ⟨f13, q13⟩, ⟨f14, q14⟩, q15, q16, q17, ⟨f18, q18, q19⟩⟩ := hM
  have e : ∀ i, i ≠ 52 → i ≠ 59 → i ≠ 64 → i ≠ 65 → ∀ {x}, h[i]? = x → h'[i]? = x := fun i a b c d x hx => (fr i a b c d).trans hx
  exact ⟨⟨_, _, _, _, _, _, _, _, e 51 (by decide) (by decide) (by decide) (by decide) q0⟩, h52, e 53 (by decide) (by decide) (by decide) (by decide) q2, e 54 (by decide) (by decide) (by decide) (by decide) q3, ⟨f5, e 55 (by decide) (by decide) (by decide) (by decide) q4⟩, e 56 (by decide) (by decide) (by decide) (by decide) q5, e 57 (by decide) (by decide) (by decide) (by decide) q6, h59, ⟨f8, e 60 (by decide) (by decide) (by decide) (by decide) q8⟩, ⟨f9, e 61 (by decide) (by decide) (by decide) (by decide) q9⟩, ⟨f10, e 62 (by decide) (by decide) (by decide) (by decide) q10⟩, ⟨f11, e 63 (by decide) (by decide) (by decide) (by decide) q11⟩, h64, h65, ⟨f14, e 66 (by decide) (by decide) (by decide) (by decide) q14⟩, e 67 (by decide) (by decide) (by decide) (by decide) q15, e 68 (by decide) (by decide) (by decide) (by decide) q16, e 69 (by decide) (by decide) (by decide) (by decide) q17, ⟨f18, e 58 (by decide) (by decide) (by decide) (by decide) q18, q19⟩⟩
theorem sm_cnt {wt hs : Int → Int} (hr : HR (clF x) wt hs) (hw : WB wt) : smF hs 6 0 0 = cnt (clF x) - cnt wt := by
  have a := hr 0 (by omega)
  have b := hr 1 (by omega)
  have c := hr 2 (by omega)
  have d := hr 3 (by omega)
  have e := hr 4 (by omega)
  have f := hr 5 (by omega)
  have z := fun j (h : 6 ≤ j) => hw.z h
  have z2 := fun j (h : 6 ≤ j) => (clF_wb (x := x)).z h
  show 0 + hs 0 + hs 1 + hs 2 + hs 3 + hs 4 + hs 5 = _
  unfold cnt
  rw [z 6 (by omega), z 7 (by omega), z 8 (by omega), z 9 (by omega), z2 6 (by omega), z2 7 (by omega), z2 8 (by omega), z2 9 (by omega)]
  omega
set_option maxHeartbeats 2000000 in
theorem C_rstorm {i : Int} (hM : MV h g Kp dn km T ln P PS R Z I ik) (hK : AK B f g) (hB : 1000 ≤ B) (hBB : B + 108000 ≤ 8000000) (rx : r32 x) (rk : r32 k) (rt : r32 tk) (ri : r32 i) (hQ0 : ¬ ((0 < x ∧ x < 64) ∧ (0 ≤ k ∧ k < 10) ∧ (0 ≤ tk ∧ tk < 2) ∧ 0 ≤ i ∧ i < 4) → Q (some (vI (-1))) h) (hQ : (0 < x ∧ x < 64) ∧ (0 ≤ k ∧ k < 10) ∧ (0 ≤ tk ∧ tk < 2) ∧ 0 ≤ i ∧ i < 4 → ∀ h', MV h' g Kp dn km T ln P PS R Z I ik → FRm h h' → Q (some (vI (rStorm k tk (clF x) g i))) h') : Cl X kX7_storm [vR 51, vI x, vI k, vI tk, vI i] h Q := by
  refine cl_of rfl (Nat.le_of_ble_eq_true rfl) rfl ?_
  obtain ⟨⟨at_, ft, ac, mn, om, fw, mo, un, m51⟩, m52, m53, m54, -, m56, m57, ⟨fr, m59⟩, -, -, -, -, ⟨hs0, m64⟩, ⟨Lo0, m65⟩, -, m67, m68, m69, -⟩ := id hM
  have hzg : ZM g := hK.2.2.2
  have hR := hK.2.1.r (by omega)
  refine wp_iload_n dX7_storm_0 rfl ?_
  refine wp_i2l dX7_storm_1 (by first | assumption | exact hR _ | exact rN _ | (unfold r32; omega)) ?_
  refine wp_lconst (z := 1) dX7_storm_2 rfl ?_
  refine wp_ldc2 dX7_storm_3 cX7_255 ?_
  refine wp_is3 dX7_storm_6 SX7_in lX7_94 (rq0 rfl rfl) (Nat.le_of_ble_eq_true rfl) (C_in (by first | assumption | exact r64_of (hR _) | (unfold r64 r32 at *; omega)) (by first | assumption | exact r64_of (hR _) | (unfold r64 r32 at *; omega)) (by first | assumption | exact r64_of (hR _) | (unfold r64 r32 at *; omega)) ?_)
  dsimp only [pushR]
  refine wp_beq 42 dX7_storm_9 rfl (fun c9 => ?_) (fun c9 => ?_)
  · refine wp_iconst dX7_storm_42 ?_
    exact wp_iret dX7_storm_43 rfl (hQ0 (by omega))
  · refine wp_iload_n dX7_storm_12 rfl ?_
    refine wp_is1 dX7_storm_13 SX7_isKey lX7_158 (rq0 rfl rfl) (Nat.le_of_ble_eq_true rfl) (C_isKey (by first | assumption | exact hR _ | exact bI_r _ | (unfold r32; omega)) ?_)
    dsimp only [pushR]
    refine wp_beq 42 dX7_storm_16 rfl (fun c16 => ?_) (fun c16 => ?_)
    · refine wp_iconst dX7_storm_42 ?_
      exact wp_iret dX7_storm_43 rfl (hQ0 (by omega))
    · refine wp_iload_n dX7_storm_19 rfl ?_
      refine wp_i2l dX7_storm_20 (by first | assumption | exact hR _ | exact rN _ | (unfold r32; omega)) ?_
      refine wp_lconst (z := 0) dX7_storm_21 rfl ?_
      refine wp_lconst (z := 1) dX7_storm_22 rfl ?_
      refine wp_is3 dX7_storm_23 SX7_in lX7_94 (rq0 rfl rfl) (Nat.le_of_ble_eq_true rfl) (C_in (by first | assumption | exact r64_of (hR _) | (unfold r64 r32 at *; omega)) (by first | assumption | exact r64_of (hR _) | (unfold r64 r32 at *; omega)) (by first | assumption | exact r64_of (hR _) | (unfold r64 r32 at *; omega)) ?_)
      dsimp only [pushR]
      refine wp_beq 42 dX7_storm_26 rfl (fun c26 => ?_) (fun c26 => ?_)
      · refine wp_iconst dX7_storm_42 ?_
        exact wp_iret dX7_storm_43 rfl (hQ0 (by omega))
      · refine wp_iload dX7_storm_29 rfl ?_
        refine wp_i2l dX7_storm_31 (by first | assumption | exact hR _ | exact rN _ | (unfold r32; omega)) ?_
        refine wp_lconst (z := 0) dX7_storm_32 rfl ?_
        refine wp_ldc2 dX7_storm_33 cX7_195 ?_
        refine wp_is3 dX7_storm_36 SX7_in lX7_94 (rq0 rfl rfl) (Nat.le_of_ble_eq_true rfl) (C_in (by first | assumption | exact r64_of (hR _) | (unfold r64 r32 at *; omega)) (by first | assumption | exact r64_of (hR _) | (unfold r64 r32 at *; omega)) (by first | assumption | exact r64_of (hR _) | (unfold r64 r32 at *; omega)) ?_)
        dsimp only [pushR]
        refine wp_bne 44 dX7_storm_39 rfl (fun c39 => ?_) (fun c39 => ?_)
        · refine wp_aload_n dX7_storm_44 rfl ?_
          refine wp_getf dX7_storm_45 fX7_9 m51 rfl ?_
          refine wp_iconst dX7_storm_48 ?_
          refine wp_aload_n dX7_storm_49 rfl ?_
          refine wp_getf dX7_storm_50 fX7_48 m51 rfl ?_
          refine wp_iconst dX7_storm_53 ?_
          refine wp_sipush dX7_storm_54 rfl ?_
          refine wp_copyi dX7_storm_57 aX7_86 m52 m59 (by decide) (by decide) (by omega) (by omega) (by omega) (by omega) (by omega) (Nat.le_of_ble_eq_true rfl) (Nat.le_of_ble_eq_true rfl) ?_
          refine wp_aload_n dX7_storm_60 rfl ?_
          refine wp_iv0 dX7_storm_61 VX7_loads lX7_281 (gs_ne (by decide) m51) (rq0 rfl rfl) (Nat.le_of_ble_eq_true rfl) (C_rloads (gs_ne (by decide) m51) (gs_ne (by decide) m52) ?_)
          dsimp only [pushR]
          refine wp_istore (L' := [some (vR 51), some (vI x), some (vI k), some (vI tk), some (vI i), some (vI (rLd g)), none, none, none, none]) dX7_storm_64 (by decide) rfl ?_
          refine wp_aload_n dX7_storm_66 rfl ?_
          refine wp_getf dX7_storm_67 fX7_9 (gs_ne (by decide) m51) rfl ?_
          refine wp_bipush dX7_storm_70 rfl ?_
          refine wp_iav (v := g 20) dX7_storm_72 (gs_ne (by decide) m52) (by decide) (by omega) rfl ?_
          refine wp_istore (L' := [some (vR 51), some (vI x), some (vI k), some (vI tk), some (vI i), some (vI (rLd g)), some (vI (g 20)), none, none, none]) dX7_storm_73 (by decide) rfl ?_
          refine wp_iconst dX7_storm_75 ?_
          refine wp_istore (L' := [some (vR 51), some (vI x), some (vI k), some (vI tk), some (vI i), some (vI (rLd g)), some (vI (g 20)), some (vI 0), none, none]) dX7_storm_76 (by decide) rfl ?_
          refine wp_iload dX7_storm_78 rfl ?_
          refine wp_bipush dX7_storm_80 rfl ?_
          refine wp_icmp_ge 99 dX7_storm_82 rfl ⟨by omega, by omega⟩ ⟨by omega, by omega⟩ (fun c82 => absurd c82 (by omega)) (fun c82 => ?_)
          refine wp_aload_n dX7_storm_85 rfl ?_
          refine wp_getf dX7_storm_86 fX7_64 (gs_ne (by decide) m51) rfl ?_
          refine wp_iload dX7_storm_89 rfl ?_
          refine wp_iconst dX7_storm_91 ?_
          refine wp_zsv dX7_storm_92 (gs_ne (by decide) m64) (by decide) (by omega) (Or.inl rfl) ?_
          refine wp_iinc (L' := [some (vR 51), some (vI x), some (vI k), some (vI tk), some (vI i), some (vI (rLd g)), some (vI (g 20)), some (vI 1), none, none]) dX7_storm_93 rfl rfl ?_
          refine wp_goto 78 dX7_storm_96 rfl ?_
          refine wp_iload dX7_storm_78 rfl ?_
          refine wp_bipush dX7_storm_80 rfl ?_
          refine wp_icmp_ge 99 dX7_storm_82 rfl ⟨by omega, by omega⟩ ⟨by omega, by omega⟩ (fun c82 => absurd c82 (by omega)) (fun c82 => ?_)
          refine wp_aload_n dX7_storm_85 rfl ?_
          refine wp_getf dX7_storm_86 fX7_64 (gs_ne (by decide) (gs_ne (by decide) m51)) rfl ?_
          refine wp_iload dX7_storm_89 rfl ?_
          refine wp_iconst dX7_storm_91 ?_
          refine wp_zsv dX7_storm_92 (gs_eq (gs_l (gs_lt m64))) (by decide) (by omega) (Or.inl rfl) ?_
          refine wp_iinc (L' := [some (vR 51), some (vI x), some (vI k), some (vI tk), some (vI i), some (vI (rLd g)), some (vI (g 20)), some (vI 2), none, none]) dX7_storm_93 rfl rfl ?_
          refine wp_goto 78 dX7_storm_96 rfl ?_
          refine wp_iload dX7_storm_78 rfl ?_
          refine wp_bipush dX7_storm_80 rfl ?_
          refine wp_icmp_ge 99 dX7_storm_82 rfl ⟨by omega, by omega⟩ ⟨by omega, by omega⟩ (fun c82 => absurd c82 (by omega)) (fun c82 => ?_)
          refine wp_aload_n dX7_storm_85 rfl ?_
          refine wp_getf dX7_storm_86 fX7_64 (gs_ne (by decide) (gs_ne (by decide) (gs_ne (by decide) m51))) rfl ?_
          refine wp_iload dX7_storm_89 rfl ?_
          refine wp_iconst dX7_storm_91 ?_
          refine wp_zsv dX7_storm_92 (gs_eq (gs_l (gs_l (gs_lt m64)))) (by decide) (by omega) (Or.inl rfl) ?_
          refine wp_iinc (L' := [some (vR 51), some (vI x), some (vI k), some (vI tk), some (vI i), some (vI (rLd g)), some (vI (g 20)), some (vI 3), none, none]) dX7_storm_93 rfl rfl ?_
          refine wp_goto 78 dX7_storm_96 rfl ?_
          refine wp_iload dX7_storm_78 rfl ?_
          refine wp_bipush dX7_storm_80 rfl ?_
          refine wp_icmp_ge 99 dX7_storm_82 rfl ⟨by omega, by omega⟩ ⟨by omega, by omega⟩ (fun c82 => absurd c82 (by omega)) (fun c82 => ?_)
          refine wp_aload_n dX7_storm_85 rfl ?_
          refine wp_getf dX7_storm_86 fX7_64 (gs_ne (by decide) (gs_ne (by decide) (gs_ne (by decide) (gs_ne (by decide) m51)))) rfl ?_
          refine wp_iload dX7_storm_89 rfl ?_
          refine wp_iconst dX7_storm_91 ?_
          refine wp_zsv dX7_storm_92 (gs_eq (gs_l (gs_l (gs_l (gs_lt m64))))) (by decide) (by omega) (Or.inl rfl) ?_
          refine wp_iinc (L' := [some (vR 51), some (vI x), some (vI k), some (vI tk), some (vI i), some (vI (rLd g)), some (vI (g 20)), some (vI 4), none, none]) dX7_storm_93 rfl rfl ?_
          refine wp_goto 78 dX7_storm_96 rfl ?_
          refine wp_iload dX7_storm_78 rfl ?_
          refine wp_bipush dX7_storm_80 rfl ?_
          refine wp_icmp_ge 99 dX7_storm_82 rfl ⟨by omega, by omega⟩ ⟨by omega, by omega⟩ (fun c82 => absurd c82 (by omega)) (fun c82 => ?_)
          refine wp_aload_n dX7_storm_85 rfl ?_
          refine wp_getf dX7_storm_86 fX7_64 (gs_ne (by decide) (gs_ne (by decide) (gs_ne (by decide) (gs_ne (by decide) (gs_ne (by decide) m51))))) rfl ?_
          refine wp_iload dX7_storm_89 rfl ?_
          refine wp_iconst dX7_storm_91 ?_
          refine wp_zsv dX7_storm_92 (gs_eq (gs_l (gs_l (gs_l (gs_l (gs_lt m64)))))) (by decide) (by omega) (Or.inl rfl) ?_
          refine wp_iinc (L' := [some (vR 51), some (vI x), some (vI k), some (vI tk), some (vI i), some (vI (rLd g)), some (vI (g 20)), some (vI 5), none, none]) dX7_storm_93 rfl rfl ?_
          refine wp_goto 78 dX7_storm_96 rfl ?_
          refine wp_iload dX7_storm_78 rfl ?_
          refine wp_bipush dX7_storm_80 rfl ?_
          refine wp_icmp_ge 99 dX7_storm_82 rfl ⟨by omega, by omega⟩ ⟨by omega, by omega⟩ (fun c82 => absurd c82 (by omega)) (fun c82 => ?_)
          refine wp_aload_n dX7_storm_85 rfl ?_
          refine wp_getf dX7_storm_86 fX7_64 (gs_ne (by decide) (gs_ne (by decide) (gs_ne (by decide) (gs_ne (by decide) (gs_ne (by decide) (gs_ne (by decide) m51)))))) rfl ?_
          refine wp_iload dX7_storm_89 rfl ?_
          refine wp_iconst dX7_storm_91 ?_
          refine wp_zsv dX7_storm_92 (gs_eq (gs_l (gs_l (gs_l (gs_l (gs_l (gs_lt m64))))))) (by decide) (by omega) (Or.inl rfl) ?_
          refine wp_iinc (L' := [some (vR 51), some (vI x), some (vI k), some (vI tk), some (vI i), some (vI (rLd g)), some (vI (g 20)), some (vI 6), none, none]) dX7_storm_93 rfl rfl ?_
          refine wp_goto 78 dX7_storm_96 rfl ?_
          refine wp_iload dX7_storm_78 rfl ?_
          refine wp_bipush dX7_storm_80 rfl ?_
          refine wp_icmp_ge 99 dX7_storm_82 rfl ⟨by omega, by omega⟩ ⟨by omega, by omega⟩ (fun c82 => ?_) (fun c82 => absurd c82 (by omega))
          refine wp_iconst dX7_storm_99 ?_
          refine wp_istore (L' := [some (vR 51), some (vI x), some (vI k), some (vI tk), some (vI i), some (vI (rLd g)), some (vI (g 20)), some (vI 0), none, none]) dX7_storm_100 (by decide) rfl ?_
          have hz0 : ∀ j, 0 ≤ j ∧ j < 6 → ((ud (ud (ud (ud (ud (ud hs0 0 0) 1 0) 2 0) 3 0) 4 0) 5 0)) j = 0 := fun j hj => by unfold ud; (repeat' split) <;> omega
          have n51 : (h.set 59 (oI 1014 (cpI g fr 0 0 1014)))[51]? = some (oO 7 (mF dn km ln at_ ft ac mn om fw mo un ik)) := gs_ne (by decide) m51
          have t0 : SR (h.set 59 (oI 1014 (cpI g fr 0 0 1014))) (((((((h.set 59 (oI 1014 (cpI g fr 0 0 1014))).set 64 (oZ 6 (ud hs0 0 0))).set 64 (oZ 6 (ud (ud hs0 0 0) 1 0))).set 64 (oZ 6 (ud (ud (ud hs0 0 0) 1 0) 2 0))).set 64 (oZ 6 (ud (ud (ud (ud hs0 0 0) 1 0) 2 0) 3 0))).set 64 (oZ 6 (ud (ud (ud (ud (ud hs0 0 0) 1 0) 2 0) 3 0) 4 0))).set 64 (oZ 6 (ud (ud (ud (ud (ud (ud hs0 0 0) 1 0) 2 0) 3 0) 4 0) 5 0))) g ((ud (ud (ud (ud (ud (ud hs0 0 0) 1 0) 2 0) 3 0) 4 0) 5 0)) := ⟨by simp only [List.length_set], fun j q52 q64 q65 => by (repeat rw [List.getElem?_set_ne (by omega : (64 : Nat) ≠ j)]), (gs_ne (by decide) (gs_ne (by decide) (gs_ne (by decide) (gs_ne (by decide) (gs_ne (by decide) (gs_ne (by decide) (gs_ne (by decide) m52))))))), (gs_eq (gs_l (gs_l (gs_l (gs_l (gs_l (gs_l (gs_lt m64)))))))), ⟨_, (gs_ne (by decide) (gs_ne (by decide) (gs_ne (by decide) (gs_ne (by decide) (gs_ne (by decide) (gs_ne (by decide) (gs_ne (by decide) m65)))))))⟩⟩
          have r0 : HR (clF x) (clF x) ((ud (ud (ud (ud (ud (ud hs0 0 0) 1 0) 2 0) 3 0) 4 0) 5 0)) := fun j hj => by have q := hz0 j hj; have q2 := clF_wb (x := x) j; omega
          refine lp_rs n51 (by omega) (by omega) (by omega) 6 0 (clF x) f g _ B _ (by omega) (by omega) hK hB (by omega) t0 r0 clF_wb (fun h1 hs1 t1 r1 => ?_)
          have sr := stR_eq (tk := tk) (by omega : 0 ≤ k ∧ k < 10) 6 0 (clF x) f g B hK hB (by omega)
          have zN : ZM (stR (rRnd k tk) 6 0 (clF x) g).2.2 := sr.2.2.2.2.2
          have wN := (stR_wb (fun w f h => (wRnd (f := f) (g := f) h).2) 6 0 (clF x) g clF_wb : WB (stR (rRnd k tk) 6 0 (clF x) g).2.1 ∧ _)
          have rN := sr.2.2.2.1.r (by omega)
          have eN : rStN k tk (clF x) g = stR (rRnd k tk) 6 0 (clF x) g := rfl
          have eS : rStorm k tk (clF x) g i = (if i = 0 then (rStN k tk (clF x) g).1 else if i = 1 then rLd (rStN k tk (clF x) g).2.2 - rLd g else if i = 2 then cnt (clF x) - cnt (rStN k tk (clF x) g).2.1 else (rStN k tk (clF x) g).2.2 20 - g 20) := rfl
          rw [eN] at eS
          clear sr eN
          generalize stR (rRnd k tk) 6 0 (clF x) g = N at *
          have sc := sm_cnt r1 wN.1
          obtain ⟨s1, s2, s52, s64, ⟨Lo1, s65⟩⟩ := id t1
          have s51 := (s2 51 (by decide) (by decide) (by decide)).trans n51
          have s59 := (s2 59 (by decide) (by decide) (by decide)).trans (gs_eq (c := oI 1014 (cpI g fr 0 0 1014)) (gs_lt m59))
          refine wp_iconst dX7_storm_130 ?_
          refine wp_istore (L' := [some (vR 51), some (vI x), some (vI k), some (vI tk), some (vI i), some (vI (rLd g)), some (vI (g 20)), some (vI N.1), some (vI 0), none]) dX7_storm_131 (by decide) rfl ?_
          refine wp_iconst dX7_storm_133 ?_
          refine wp_istore (L' := [some (vR 51), some (vI x), some (vI k), some (vI tk), some (vI i), some (vI (rLd g)), some (vI (g 20)), some (vI N.1), some (vI 0), some (vI 0)]) dX7_storm_134 (by decide) rfl ?_
          refine lp_cn s51 s64 (fun j hj => (r1 j hj).2.1) 6 0 0 (by omega) (by omega) ?_
          rw [sc]
          refine wp_iload dX7_storm_169 rfl ?_
          refine wp_if_ne 179 dX7_storm_171 rfl (by first | assumption | exact hR _ | exact rN _ | (unfold r32; omega)) (fun c171 => ?_) (fun c171 => ?_)
          · refine wp_iload dX7_storm_179 rfl ?_
            refine wp_iconst dX7_storm_181 ?_
            refine wp_icmp_ne 195 dX7_storm_182 rfl (by first | assumption | exact hR _ | exact rN _ | (unfold r32; omega)) ⟨by omega, by omega⟩ (fun c182 => ?_) (fun c182 => ?_)
            · refine wp_iload dX7_storm_195 rfl ?_
              refine wp_iconst dX7_storm_197 ?_
              refine wp_icmp_ne 206 dX7_storm_198 rfl (by first | assumption | exact hR _ | exact rN _ | (unfold r32; omega)) ⟨by omega, by omega⟩ (fun c198 => ?_) (fun c198 => ?_)
              · refine wp_aload_n dX7_storm_206 rfl ?_
                refine wp_getf dX7_storm_207 fX7_9 s51 rfl ?_
                refine wp_bipush dX7_storm_210 rfl ?_
                refine wp_iav (v := N.2.2 20) dX7_storm_212 s52 (by decide) (by omega) rfl ?_
                refine wp_iload dX7_storm_213 rfl ?_
                refine wp_isub dX7_storm_215 ?_
                refine wp_istore (L' := [some (vR 51), some (vI x), some (vI k), some (vI tk), some (vI i), some (vI (rLd g)), some (vI (g 20)), some (vI N.1), some (vI (cnt (clF x) - cnt N.2.1)), some (vI (N.2.2 20 - g 20))]) dX7_storm_216 (by decide) rfl ?_
                refine wp_aload_n dX7_storm_218 rfl ?_
                refine wp_getf dX7_storm_219 fX7_48 s51 rfl ?_
                refine wp_iconst dX7_storm_222 ?_
                refine wp_aload_n dX7_storm_223 rfl ?_
                refine wp_getf dX7_storm_224 fX7_9 s51 rfl ?_
                refine wp_iconst dX7_storm_227 ?_
                refine wp_sipush dX7_storm_228 rfl ?_
                refine wp_copyi dX7_storm_231 aX7_86 s59 s52 (by decide) (by decide) (by omega) (by omega) (by omega) (by omega) (by omega) (Nat.le_of_ble_eq_true rfl) (Nat.le_of_ble_eq_true rfl) ?_
                refine wp_iload dX7_storm_234 rfl ?_
                exact wp_iret dX7_storm_236 rfl (by
                    rw [cp_back hzg zN]
                    have q := hQ (by omega) (h1.set 52 (oI 1014 g)) (MV.st hM (gs_eq (gs_lt s52)) ⟨_, gs_ne (by decide) s59⟩ ⟨_, gs_ne (by decide) s64⟩ ⟨_, gs_ne (by decide) s65⟩ (fun j q52 q59 q64 q65 => by rw [List.getElem?_set_ne (by omega), s2 j q52 q64 q65, List.getElem?_set_ne (by omega)])) ⟨by rw [List.length_set, s1, List.length_set], fun j hj => by rw [List.getElem?_set_ne (by omega), s2 j (by omega) (by omega) (by omega), List.getElem?_set_ne (by omega)]⟩
                    rw [eS] at q
                    (repeat' split at q) <;> first | (exfalso; omega) | exact q)
              · refine wp_iload dX7_storm_201 rfl ?_
                refine wp_goto 216 dX7_storm_203 rfl ?_
                refine wp_istore (L' := [some (vR 51), some (vI x), some (vI k), some (vI tk), some (vI i), some (vI (rLd g)), some (vI (g 20)), some (vI N.1), some (vI (cnt (clF x) - cnt N.2.1)), some (vI (cnt (clF x) - cnt N.2.1))]) dX7_storm_216 (by decide) rfl ?_
                refine wp_aload_n dX7_storm_218 rfl ?_
                refine wp_getf dX7_storm_219 fX7_48 s51 rfl ?_
                refine wp_iconst dX7_storm_222 ?_
                refine wp_aload_n dX7_storm_223 rfl ?_
                refine wp_getf dX7_storm_224 fX7_9 s51 rfl ?_
                refine wp_iconst dX7_storm_227 ?_
                refine wp_sipush dX7_storm_228 rfl ?_
                refine wp_copyi dX7_storm_231 aX7_86 s59 s52 (by decide) (by decide) (by omega) (by omega) (by omega) (by omega) (by omega) (Nat.le_of_ble_eq_true rfl) (Nat.le_of_ble_eq_true rfl) ?_
                refine wp_iload dX7_storm_234 rfl ?_
                exact wp_iret dX7_storm_236 rfl (by
                    rw [cp_back hzg zN]
                    have q := hQ (by omega) (h1.set 52 (oI 1014 g)) (MV.st hM (gs_eq (gs_lt s52)) ⟨_, gs_ne (by decide) s59⟩ ⟨_, gs_ne (by decide) s64⟩ ⟨_, gs_ne (by decide) s65⟩ (fun j q52 q59 q64 q65 => by rw [List.getElem?_set_ne (by omega), s2 j q52 q64 q65, List.getElem?_set_ne (by omega)])) ⟨by rw [List.length_set, s1, List.length_set], fun j hj => by rw [List.getElem?_set_ne (by omega), s2 j (by omega) (by omega) (by omega), List.getElem?_set_ne (by omega)]⟩
                    rw [eS] at q
                    (repeat' split at q) <;> first | (exfalso; omega) | exact q)
            · refine wp_aload_n dX7_storm_185 rfl ?_
              refine wp_iv0 dX7_storm_186 VX7_loads lX7_281 s51 (rq0 rfl rfl) (Nat.le_of_ble_eq_true rfl) (C_rloads s51 s52 ?_)
              dsimp only [pushR]
              refine wp_iload dX7_storm_189 rfl ?_
              refine wp_isub dX7_storm_191 ?_
              refine wp_goto 216 dX7_storm_192 rfl ?_
              refine wp_istore (L' := [some (vR 51), some (vI x), some (vI k), some (vI tk), some (vI i), some (vI (rLd g)), some (vI (g 20)), some (vI N.1), some (vI (cnt (clF x) - cnt N.2.1)), some (vI ((rLd N.2.2) - (rLd g)))]) dX7_storm_216 (by decide) rfl ?_
              refine wp_aload_n dX7_storm_218 rfl ?_
              refine wp_getf dX7_storm_219 fX7_48 s51 rfl ?_
              refine wp_iconst dX7_storm_222 ?_
              refine wp_aload_n dX7_storm_223 rfl ?_
              refine wp_getf dX7_storm_224 fX7_9 s51 rfl ?_
              refine wp_iconst dX7_storm_227 ?_
              refine wp_sipush dX7_storm_228 rfl ?_
              refine wp_copyi dX7_storm_231 aX7_86 s59 s52 (by decide) (by decide) (by omega) (by omega) (by omega) (by omega) (by omega) (Nat.le_of_ble_eq_true rfl) (Nat.le_of_ble_eq_true rfl) ?_
              refine wp_iload dX7_storm_234 rfl ?_
              exact wp_iret dX7_storm_236 rfl (by
                  rw [cp_back hzg zN]
                  have q := hQ (by omega) (h1.set 52 (oI 1014 g)) (MV.st hM (gs_eq (gs_lt s52)) ⟨_, gs_ne (by decide) s59⟩ ⟨_, gs_ne (by decide) s64⟩ ⟨_, gs_ne (by decide) s65⟩ (fun j q52 q59 q64 q65 => by rw [List.getElem?_set_ne (by omega), s2 j q52 q64 q65, List.getElem?_set_ne (by omega)])) ⟨by rw [List.length_set, s1, List.length_set], fun j hj => by rw [List.getElem?_set_ne (by omega), s2 j (by omega) (by omega) (by omega), List.getElem?_set_ne (by omega)]⟩
                  rw [eS] at q
                  (repeat' split at q) <;> first | (exfalso; omega) | exact q)
          · refine wp_iload dX7_storm_174 rfl ?_
            refine wp_goto 216 dX7_storm_176 rfl ?_
            refine wp_istore (L' := [some (vR 51), some (vI x), some (vI k), some (vI tk), some (vI i), some (vI (rLd g)), some (vI (g 20)), some (vI N.1), some (vI (cnt (clF x) - cnt N.2.1)), some (vI N.1)]) dX7_storm_216 (by decide) rfl ?_
            refine wp_aload_n dX7_storm_218 rfl ?_
            refine wp_getf dX7_storm_219 fX7_48 s51 rfl ?_
            refine wp_iconst dX7_storm_222 ?_
            refine wp_aload_n dX7_storm_223 rfl ?_
            refine wp_getf dX7_storm_224 fX7_9 s51 rfl ?_
            refine wp_iconst dX7_storm_227 ?_
            refine wp_sipush dX7_storm_228 rfl ?_
            refine wp_copyi dX7_storm_231 aX7_86 s59 s52 (by decide) (by decide) (by omega) (by omega) (by omega) (by omega) (by omega) (Nat.le_of_ble_eq_true rfl) (Nat.le_of_ble_eq_true rfl) ?_
            refine wp_iload dX7_storm_234 rfl ?_
            exact wp_iret dX7_storm_236 rfl (by
                rw [cp_back hzg zN]
                have q := hQ (by omega) (h1.set 52 (oI 1014 g)) (MV.st hM (gs_eq (gs_lt s52)) ⟨_, gs_ne (by decide) s59⟩ ⟨_, gs_ne (by decide) s64⟩ ⟨_, gs_ne (by decide) s65⟩ (fun j q52 q59 q64 q65 => by rw [List.getElem?_set_ne (by omega), s2 j q52 q64 q65, List.getElem?_set_ne (by omega)])) ⟨by rw [List.length_set, s1, List.length_set], fun j hj => by rw [List.getElem?_set_ne (by omega), s2 j (by omega) (by omega) (by omega), List.getElem?_set_ne (by omega)]⟩
                rw [eS] at q
                (repeat' split at q) <;> first | (exfalso; omega) | exact q)
        · refine wp_iconst dX7_storm_42 ?_
          exact wp_iret dX7_storm_43 rfl (hQ0 (by omega))
theorem A_storm {i : Int} (hK : AK B f g) (hB : 1000 ≤ B) (hBB : B + 108000 ≤ 8000000) (hk : 0 ≤ k ∧ k < 10) : cStorm k tk (clF x) f i = rStorm k tk (clF x) g i := by
  have sr := stR_eq (tk := tk) hk 6 0 (clF x) f g B hK hB (by omega)
  have ld : ∀ {B : Int} {f g : Int → Int}, AK B f g → wAl f = rLd g ∧ f 14 = g 20 := fun h => by
    have o := h.1.1.O
    have a := o 0 (by omega)
    have b := o 1 (by omega)
    have c := o 2 (by omega)
    refine ⟨?_, h.1.2.2⟩
    show 0 + _ + _ + _ = _
    unfold rLd
    exact congr (congrArg _ (congr (congrArg _ ((Int.zero_add _).trans a)) b)) c
  have l1 := ld hK
  have l2 := ld sr.2.2
  unfold cStorm rStorm cStN rStN
  rw [sr.1, sr.2.1, l1.1, l1.2, l2.1, l2.2]
end SX_
