/-! what is due: the reference's search -/
def sR (t a k : Int) : Int := if t = 0 then eA a k else if t = 1 then oA a k else if t = 2 then lA a k else dA a k
def pR (n : Int) : Int := sR (n / 60) (n % 60 / 10) (n % 10)
def cR (g : Int → Int) (n : Int) : Int := g (pR n) * 10000 + n / 60 * 1000 + 100 * (n % 60 / 10) + n % 10
/-- z is the least code above u of those below N, or -1 -/
def IR (g : Int → Int) (u N z : Int) : Prop := (-1 ≤ z ∧ z ≤ 90000000000) ∧ ((z = -1 ∧ ∀ n, 0 ≤ n → n < N → g 0 < g (pR n) → cR g n ≤ u) ∨ ((∃ n, (0 ≤ n ∧ n < 240) ∧ g 0 < g (pR n) ∧ u < cR g n ∧ z = cR g n) ∧ ∀ n, 0 ≤ n → n < N → g 0 < g (pR n) → u < cR g n → z ≤ cR g n))
theorem ir_keep {g : Int → Int} {u N z : Int} (h : IR g u N z) (hk : g 0 < g (pR N) → u < cR g N → 0 ≤ z ∧ z ≤ cR g N) : IR g u (N + 1) z := by
  refine ⟨h.1, ?_⟩
  rcases h.2 with ⟨h1, h2⟩ | ⟨h1, h2⟩
  · refine Or.inl ⟨h1, fun n q1 q2 q3 => ?_⟩
    rcases Decidable.em (n = N) with e | e
    · rcases Decidable.em (cR g n ≤ u) with c | c
      · exact c
      · rw [e] at q3 c
        have := hk q3 (by omega)
        omega
    · exact h2 n q1 (by omega) q3
  · refine Or.inr ⟨h1, fun n q1 q2 q3 q4 => ?_⟩
    rcases Decidable.em (n = N) with e | e
    · rw [e] at q3 q4 ⊢
      exact (hk q3 q4).2
    · exact h2 n q1 (by omega) q3 q4
theorem ir_new {g : Int → Int} {u N z : Int} (h : IR g u N z) (hN : 0 ≤ N ∧ N < 240) (h1 : g 0 < g (pR N)) (h2 : u < cR g N) (h3 : z < 0 ∨ cR g N < z) (h4 : -1 ≤ cR g N ∧ cR g N ≤ 90000000000) (hu : -1 ≤ u) : IR g u (N + 1) (cR g N) := by
  refine ⟨h4, Or.inr ⟨⟨N, hN, h1, h2, rfl⟩, fun n q1 q2 q3 q4 => ?_⟩⟩
  rcases Decidable.em (n = N) with e | e
  · rw [e]; exact Int.le_refl _
  · rcases h.2 with ⟨k1, k2⟩ | ⟨⟨n', k1, -, k3, k4⟩, k2⟩
    · have := k2 n q1 (by omega) q3
      omega
    · have := k2 n q1 (by omega) q3 q4
      have := h.1
      rcases h3 with h3 | h3
      · have hb : z = cR g n' := k4
        omega
      · omega
def RdE (g : Int → Int) : Nat → Int → Int → Prop
  | 0, u, v => v = u
  | r + 1, u, v => ∃ z, IR g u 240 z ∧ ((z < 0 ∧ v = -1) ∨ (¬ z < 0 ∧ RdE g r z v))
section DU
variable {X : XS} {h : AH} {Q : Option AV → AH → Prop} {g Kp : Int → Int} {dn km ln ik B : Int} {T P PS R Z I : Int → Int}
set_option maxHeartbeats 1000000 in
theorem C_startOf {t a k : Int} (rt : r32 t) (hQ : Q (some (vI (sR t a k))) h) : Cl X kX7_startOf [vI t, vI a, vI k] h Q := by
  refine cl_of rfl (Nat.le_of_ble_eq_true rfl) rfl ?_
  refine wp_iload_n dX7_startOf_0 rfl ?_
  refine wp_if_ne 12 dX7_startOf_1 rfl (by first | assumption | exact hR _ | exact bI_r _ | (unfold r32; omega)) (fun c1 => ?_) (fun c1 => ?_)
  · refine wp_iload_n dX7_startOf_12 rfl ?_
    refine wp_iconst dX7_startOf_13 ?_
    refine wp_icmp_ne 25 dX7_startOf_14 rfl (by first | assumption | exact hR _ | exact bI_r _ | (unfold r32; omega)) ⟨by omega, by omega⟩ (fun c14 => ?_) (fun c14 => ?_)
    · refine wp_iload_n dX7_startOf_25 rfl ?_
      refine wp_iconst dX7_startOf_26 ?_
      refine wp_icmp_ne 38 dX7_startOf_27 rfl (by first | assumption | exact hR _ | exact bI_r _ | (unfold r32; omega)) ⟨by omega, by omega⟩ (fun c27 => ?_) (fun c27 => ?_)
      · refine wp_iload_n dX7_startOf_38 rfl ?_
        refine wp_iload_n dX7_startOf_39 rfl ?_
        refine wp_is2 dX7_startOf_40 SX7_holdAt lX7_137 (rq0 rfl rfl) (Nat.le_of_ble_eq_true rfl) (C_holdAt ?_)
        dsimp only [pushR]
        exact wp_iret dX7_startOf_43 rfl (by unfold sR at hQ; (repeat' split at hQ) <;> first | (exfalso; omega) | exact hQ)
      · refine wp_iload_n dX7_startOf_30 rfl ?_
        refine wp_iload_n dX7_startOf_31 rfl ?_
        refine wp_is2 dX7_startOf_32 SX7_leaseAt lX7_119 (rq0 rfl rfl) (Nat.le_of_ble_eq_true rfl) (C_leaseAt ?_)
        dsimp only [pushR]
        refine wp_goto 43 dX7_startOf_35 rfl ?_
        exact wp_iret dX7_startOf_43 rfl (by unfold sR at hQ; (repeat' split at hQ) <;> first | (exfalso; omega) | exact hQ)
    · refine wp_iload_n dX7_startOf_17 rfl ?_
      refine wp_iload_n dX7_startOf_18 rfl ?_
      refine wp_is2 dX7_startOf_19 SX7_oldAt lX7_122 (rq0 rfl rfl) (Nat.le_of_ble_eq_true rfl) (C_oldAt ?_)
      dsimp only [pushR]
      refine wp_goto 43 dX7_startOf_22 rfl ?_
      exact wp_iret dX7_startOf_43 rfl (by unfold sR at hQ; (repeat' split at hQ) <;> first | (exfalso; omega) | exact hQ)
  · refine wp_iload_n dX7_startOf_4 rfl ?_
    refine wp_iload_n dX7_startOf_5 rfl ?_
    refine wp_is2 dX7_startOf_6 SX7_entryAt lX7_112 (rq0 rfl rfl) (Nat.le_of_ble_eq_true rfl) (C_entryAt ?_)
    dsimp only [pushR]
    refine wp_goto 43 dX7_startOf_9 rfl ?_
    exact wp_iret dX7_startOf_43 rfl (by unfold sR at hQ; (repeat' split at hQ) <;> first | (exfalso; omega) | exact hQ)
set_option maxHeartbeats 1000000 in
theorem lp_dk {j u i t a at_ ft ac mn om fw mo un : Int} {b : Nat × Nat} (m51 : h[51]? = some (oO 7 (mF dn km ln at_ ft ac mn om fw mo un ik))) (m52 : h[52]? = some (oI 1014 g)) (hI : IM B g) (hBB : B ≤ 8000000) (hu : -1 ≤ u ∧ u ≤ 90000000000) (ht : 0 ≤ t ∧ t < 4) (ha : 0 ≤ a ∧ a < 6) : ∀ (m : Nat) (k z : Int) (y1 y2 : Option AV), k + m = 10 → 0 ≤ k → IR g u (60 * t + 10 * a + k) z → (∀ z' y1 y2, IR g u (60 * t + 10 * a + 10) z' → Wp X kX7_dueAt 132 [some (vR 51), some (vI j), some (vL u), none, some (vI i), some (vL z'), none, some (vI t), some (vI a), some (vI 10), y1, y2, none] [] h b Q) → Wp X kX7_dueAt 40 [some (vR 51), some (vI j), some (vL u), none, some (vI i), some (vL z), none, some (vI t), some (vI a), some (vI k), y1, y2, none] [] h b Q := by
  intro m
  induction m with
  | zero =>
    intro k z y1 y2 q1 q2 q3 hQ
    have hk : k = 10 := by omega
    subst hk
    refine wp_iload dX7_dueAt_40 rfl ?_
    refine wp_bipush dX7_dueAt_42 rfl ?_
    refine wp_icmp_ge 132 dX7_dueAt_44 rfl (by first | assumption | exact hR _ | exact bI_r _ | (unfold r32; omega)) ⟨by omega, by omega⟩ (fun c44 => ?_) (fun c44 => ?_)
    · exact hQ _ _ _ q3
    · exfalso; omega
  | succ m ih =>
    intro k z y1 y2 q1 q2 q3 hQ
    have hR := hI.r (by omega)
    have ep : pR (60 * t + 10 * a + k) = sR t a k := by
      unfold pR
      rw [show (60 * t + 10 * a + k) / 60 = t by omega, show (60 * t + 10 * a + k) % 60 / 10 = a by omega, show (60 * t + 10 * a + k) % 10 = k by omega]
    have ec : cR g (60 * t + 10 * a + k) = g (sR t a k) * 10000 + t * 1000 + 100 * a + k := by
      unfold cR
      rw [ep, show (60 * t + 10 * a + k) / 60 = t by omega, show (60 * t + 10 * a + k) % 60 / 10 = a by omega, show (60 * t + 10 * a + k) % 10 = k by omega]
    have hb : 0 ≤ sR t a k ∧ sR t a k < 1014 := by
      unfold sR eA oA lA dA
      (repeat' split) <;> omega
    have hg := hI.b (sR t a k)
    have hg2 := hR (sR t a k)
    have hz := q3.1
    have e1 : 60 * t + 10 * a + (k + 1) = 60 * t + 10 * a + k + 1 := by omega
    refine wp_iload dX7_dueAt_40 rfl ?_
    refine wp_bipush dX7_dueAt_42 rfl ?_
    refine wp_icmp_ge 132 dX7_dueAt_44 rfl (by first | assumption | exact hR _ | exact bI_r _ | (unfold r32; omega)) ⟨by omega, by omega⟩ (fun c44 => ?_) (fun c44 => ?_)
    · exfalso; omega
    · refine wp_iload dX7_dueAt_47 rfl ?_
      refine wp_iload dX7_dueAt_49 rfl ?_
      refine wp_iload dX7_dueAt_51 rfl ?_
      refine wp_is3 dX7_dueAt_53 SX7_startOf lX7_203 (rq0 rfl rfl) (Nat.le_of_ble_eq_true rfl) (C_startOf (by first | assumption | exact hR _ | exact bI_r _ | (unfold r32; omega)) ?_)
      dsimp only [pushR]
      refine wp_istore (L' := [some (vR 51), some (vI j), some (vL u), none, some (vI i), some (vL z), none, some (vI t), some (vI a), some (vI k), some (vI (sR t a k)), y2, none]) dX7_dueAt_56 (by decide) rfl ?_
      refine wp_aload_n dX7_dueAt_58 rfl ?_
      refine wp_getf dX7_dueAt_59 fX7_9 m51 rfl ?_
      refine wp_iload dX7_dueAt_62 rfl ?_
      refine wp_iav (v := g (sR t a k)) dX7_dueAt_64 m52 (by decide) (by omega) rfl ?_
      refine wp_i2l dX7_dueAt_65 (by first | assumption | exact hR _ | exact bI_r _ | (unfold r32; omega)) ?_
      refine wp_ldc2 dX7_dueAt_66 cX7_206 ?_
      refine wp_lmul dX7_dueAt_69 ?_
      refine wp_iload dX7_dueAt_70 rfl ?_
      refine wp_sipush dX7_dueAt_72 rfl ?_
      refine wp_imul dX7_dueAt_75 ?_
      refine wp_i2l dX7_dueAt_76 (by first | assumption | exact hR _ | exact bI_r _ | (unfold r32; omega)) ?_
      refine wp_ladd dX7_dueAt_77 ?_
      refine wp_bipush dX7_dueAt_78 rfl ?_
      refine wp_iload dX7_dueAt_80 rfl ?_
      refine wp_imul dX7_dueAt_82 ?_
      refine wp_i2l dX7_dueAt_83 (by first | assumption | exact hR _ | exact bI_r _ | (unfold r32; omega)) ?_
      refine wp_ladd dX7_dueAt_84 ?_
      refine wp_iload dX7_dueAt_85 rfl ?_
      refine wp_i2l dX7_dueAt_87 (by first | assumption | exact hR _ | exact bI_r _ | (unfold r32; omega)) ?_
      refine wp_ladd dX7_dueAt_88 ?_
      refine wp_lstore (L' := [some (vR 51), some (vI j), some (vL u), none, some (vI i), some (vL z), none, some (vI t), some (vI a), some (vI k), some (vI (sR t a k)), some (vL (g (sR t a k) * 10000 + t * 1000 + 100 * a + k)), none]) dX7_dueAt_89 (by decide) rfl ?_
      refine wp_aload_n dX7_dueAt_91 rfl ?_
      refine wp_iload dX7_dueAt_92 rfl ?_
      refine wp_iv1 dX7_dueAt_94 VX7_isThere lX7_115 m51 (rq0 rfl rfl) (Nat.le_of_ble_eq_true rfl) (sa_of m52 (C_isThere (sa_mk (by decide) m51 rfl m52) (by omega) rfl rfl (hR _) (hR _) ?_))
      dsimp only [pushR]
      rw [set_same m52]
      refine wp_beq 126 dX7_dueAt_97 rfl (fun c97 => ?_) (fun c97 => ?_)
      · refine wp_iinc (L' := [some (vR 51), some (vI j), some (vL u), none, some (vI i), some (vL z), none, some (vI t), some (vI a), some (vI (k + 1)), some (vI (sR t a k)), some (vL (g (sR t a k) * 10000 + t * 1000 + 100 * a + k)), none]) dX7_dueAt_126 rfl rfl ?_
        refine wp_goto 40 dX7_dueAt_129 rfl ?_
        first | exact ih (k + 1) _ _ _ (by omega) (by omega) (by rw [e1]; exact ir_keep q3 (by rw [ep, ec]; intros; omega)) hQ | exact ih (k + 1) _ _ _ (by omega) (by omega) (by rw [e1, ← ec]; exact ir_new q3 (by omega) (by rw [ep]; omega) (by omega) (by omega) (by omega) hu.1) hQ
      · refine wp_lload dX7_dueAt_100 rfl ?_
        refine wp_lload_n dX7_dueAt_102 rfl ?_
        refine wp_lc_le 126 dX7_dueAt_103 dX7_dueAt_104 rfl (by first | assumption | exact r64_of (hR _) | (unfold r64 r32 at *; omega)) (by first | assumption | exact r64_of (hR _) | (unfold r64 r32 at *; omega)) (fun c104 => ?_) (fun c104 => ?_)
        · refine wp_iinc (L' := [some (vR 51), some (vI j), some (vL u), none, some (vI i), some (vL z), none, some (vI t), some (vI a), some (vI (k + 1)), some (vI (sR t a k)), some (vL (g (sR t a k) * 10000 + t * 1000 + 100 * a + k)), none]) dX7_dueAt_126 rfl rfl ?_
          refine wp_goto 40 dX7_dueAt_129 rfl ?_
          first | exact ih (k + 1) _ _ _ (by omega) (by omega) (by rw [e1]; exact ir_keep q3 (by rw [ep, ec]; intros; omega)) hQ | exact ih (k + 1) _ _ _ (by omega) (by omega) (by rw [e1, ← ec]; exact ir_new q3 (by omega) (by rw [ep]; omega) (by omega) (by omega) (by omega) hu.1) hQ
        · refine wp_lload dX7_dueAt_107 rfl ?_
          refine wp_lconst (z := 0) dX7_dueAt_109 rfl ?_
          refine wp_lc_lt 122 dX7_dueAt_110 dX7_dueAt_111 rfl (by first | assumption | exact r64_of (hR _) | (unfold r64 r32 at *; omega)) ⟨by omega, by omega⟩ (fun c111 => ?_) (fun c111 => ?_)
          · refine wp_lload dX7_dueAt_122 rfl ?_
            refine wp_lstore (L' := [some (vR 51), some (vI j), some (vL u), none, some (vI i), some (vL (g (sR t a k) * 10000 + t * 1000 + 100 * a + k)), none, some (vI t), some (vI a), some (vI k), some (vI (sR t a k)), some (vL (g (sR t a k) * 10000 + t * 1000 + 100 * a + k)), none]) dX7_dueAt_124 (by decide) rfl ?_
            refine wp_iinc (L' := [some (vR 51), some (vI j), some (vL u), none, some (vI i), some (vL (g (sR t a k) * 10000 + t * 1000 + 100 * a + k)), none, some (vI t), some (vI a), some (vI (k + 1)), some (vI (sR t a k)), some (vL (g (sR t a k) * 10000 + t * 1000 + 100 * a + k)), none]) dX7_dueAt_126 rfl rfl ?_
            refine wp_goto 40 dX7_dueAt_129 rfl ?_
            first | exact ih (k + 1) _ _ _ (by omega) (by omega) (by rw [e1]; exact ir_keep q3 (by rw [ep, ec]; intros; omega)) hQ | exact ih (k + 1) _ _ _ (by omega) (by omega) (by rw [e1, ← ec]; exact ir_new q3 (by omega) (by rw [ep]; omega) (by omega) (by omega) (by omega) hu.1) hQ
          · refine wp_lload dX7_dueAt_114 rfl ?_
            refine wp_lload dX7_dueAt_116 rfl ?_
            refine wp_lc_ge 126 dX7_dueAt_118 dX7_dueAt_119 rfl (by first | assumption | exact r64_of (hR _) | (unfold r64 r32 at *; omega)) (by first | assumption | exact r64_of (hR _) | (unfold r64 r32 at *; omega)) (fun c119 => ?_) (fun c119 => ?_)
            · refine wp_iinc (L' := [some (vR 51), some (vI j), some (vL u), none, some (vI i), some (vL z), none, some (vI t), some (vI a), some (vI (k + 1)), some (vI (sR t a k)), some (vL (g (sR t a k) * 10000 + t * 1000 + 100 * a + k)), none]) dX7_dueAt_126 rfl rfl ?_
              refine wp_goto 40 dX7_dueAt_129 rfl ?_
              first | exact ih (k + 1) _ _ _ (by omega) (by omega) (by rw [e1]; exact ir_keep q3 (by rw [ep, ec]; intros; omega)) hQ | exact ih (k + 1) _ _ _ (by omega) (by omega) (by rw [e1, ← ec]; exact ir_new q3 (by omega) (by rw [ep]; omega) (by omega) (by omega) (by omega) hu.1) hQ
            · refine wp_lload dX7_dueAt_122 rfl ?_
              refine wp_lstore (L' := [some (vR 51), some (vI j), some (vL u), none, some (vI i), some (vL (g (sR t a k) * 10000 + t * 1000 + 100 * a + k)), none, some (vI t), some (vI a), some (vI k), some (vI (sR t a k)), some (vL (g (sR t a k) * 10000 + t * 1000 + 100 * a + k)), none]) dX7_dueAt_124 (by decide) rfl ?_
              refine wp_iinc (L' := [some (vR 51), some (vI j), some (vL u), none, some (vI i), some (vL (g (sR t a k) * 10000 + t * 1000 + 100 * a + k)), none, some (vI t), some (vI a), some (vI (k + 1)), some (vI (sR t a k)), some (vL (g (sR t a k) * 10000 + t * 1000 + 100 * a + k)), none]) dX7_dueAt_126 rfl rfl ?_
              refine wp_goto 40 dX7_dueAt_129 rfl ?_
              first | exact ih (k + 1) _ _ _ (by omega) (by omega) (by rw [e1]; exact ir_keep q3 (by rw [ep, ec]; intros; omega)) hQ | exact ih (k + 1) _ _ _ (by omega) (by omega) (by rw [e1, ← ec]; exact ir_new q3 (by omega) (by rw [ep]; omega) (by omega) (by omega) (by omega) hu.1) hQ
set_option maxHeartbeats 1000000 in
theorem lp_da {j u i t at_ ft ac mn om fw mo un : Int} {b : Nat × Nat} (m51 : h[51]? = some (oO 7 (mF dn km ln at_ ft ac mn om fw mo un ik))) (m52 : h[52]? = some (oI 1014 g)) (hI : IM B g) (hBB : B ≤ 8000000) (hu : -1 ≤ u ∧ u ≤ 90000000000) (ht : 0 ≤ t ∧ t < 4) : ∀ (m : Nat) (a z : Int) (y0 y1 y2 : Option AV), a + m = 6 → 0 ≤ a → IR g u (60 * t + 10 * a) z → (∀ z' y0 y1 y2, IR g u (60 * t + 60) z' → Wp X kX7_dueAt 138 [some (vR 51), some (vI j), some (vL u), none, some (vI i), some (vL z'), none, some (vI t), some (vI 6), y0, y1, y2, none] [] h b Q) → Wp X kX7_dueAt 30 [some (vR 51), some (vI j), some (vL u), none, some (vI i), some (vL z), none, some (vI t), some (vI a), y0, y1, y2, none] [] h b Q := by
  intro m
  induction m with
  | zero =>
    intro a z y0 y1 y2 q1 q2 q3 hQ
    have ha : a = 6 := by omega
    subst ha
    refine wp_iload dX7_dueAt_30 rfl ?_
    refine wp_bipush dX7_dueAt_32 rfl ?_
    refine wp_icmp_ge 138 dX7_dueAt_34 rfl (by first | assumption | exact hR _ | exact bI_r _ | (unfold r32; omega)) ⟨by omega, by omega⟩ (fun c34 => ?_) (fun c34 => ?_)
    · exact hQ _ _ _ _ q3
    · exfalso; omega
  | succ m ih =>
    intro a z y0 y1 y2 q1 q2 q3 hQ
    refine wp_iload dX7_dueAt_30 rfl ?_
    refine wp_bipush dX7_dueAt_32 rfl ?_
    refine wp_icmp_ge 138 dX7_dueAt_34 rfl (by first | assumption | exact hR _ | exact bI_r _ | (unfold r32; omega)) ⟨by omega, by omega⟩ (fun c34 => ?_) (fun c34 => ?_)
    · exfalso; omega
    · refine wp_iconst dX7_dueAt_37 ?_
      refine wp_istore (L' := [some (vR 51), some (vI j), some (vL u), none, some (vI i), some (vL z), none, some (vI t), some (vI a), some (vI 0), y1, y2, none]) dX7_dueAt_38 (by decide) rfl ?_
      refine lp_dk m51 m52 hI hBB hu ht (by omega) 10 0 z _ _ (by omega) (by omega) (by rw [Int.add_zero]; exact q3) (fun z' y1 y2 q4 => ?_)
      refine wp_iinc (L' := [some (vR 51), some (vI j), some (vL u), none, some (vI i), some (vL z'), none, some (vI t), some (vI (a + 1)), some (vI 10), y1, y2, none]) dX7_dueAt_132 rfl rfl ?_
      refine wp_goto 30 dX7_dueAt_135 rfl ?_
      exact ih (a + 1) z' _ _ _ (by omega) (by omega) (by rw [show 60 * t + 10 * (a + 1) = 60 * t + 10 * a + 10 by omega]; exact q4) hQ
set_option maxHeartbeats 1000000 in
theorem lp_dt {j u i at_ ft ac mn om fw mo un : Int} {b : Nat × Nat} (m51 : h[51]? = some (oO 7 (mF dn km ln at_ ft ac mn om fw mo un ik))) (m52 : h[52]? = some (oI 1014 g)) (hI : IM B g) (hBB : B ≤ 8000000) (hu : -1 ≤ u ∧ u ≤ 90000000000) : ∀ (m : Nat) (t z : Int) (y3 y0 y1 y2 : Option AV), t + m = 4 → 0 ≤ t → IR g u (60 * t) z → (∀ z' y3 y0 y1 y2, IR g u 240 z' → Wp X kX7_dueAt 144 [some (vR 51), some (vI j), some (vL u), none, some (vI i), some (vL z'), none, some (vI 4), y3, y0, y1, y2, none] [] h b Q) → Wp X kX7_dueAt 21 [some (vR 51), some (vI j), some (vL u), none, some (vI i), some (vL z), none, some (vI t), y3, y0, y1, y2, none] [] h b Q := by
  intro m
  induction m with
  | zero =>
    intro t z y3 y0 y1 y2 q1 q2 q3 hQ
    have ht : t = 4 := by omega
    subst ht
    refine wp_iload dX7_dueAt_21 rfl ?_
    refine wp_iconst dX7_dueAt_23 ?_
    refine wp_icmp_ge 144 dX7_dueAt_24 rfl (by first | assumption | exact hR _ | exact bI_r _ | (unfold r32; omega)) ⟨by omega, by omega⟩ (fun c24 => ?_) (fun c24 => ?_)
    · exact hQ _ _ _ _ _ q3
    · exfalso; omega
  | succ m ih =>
    intro t z y3 y0 y1 y2 q1 q2 q3 hQ
    refine wp_iload dX7_dueAt_21 rfl ?_
    refine wp_iconst dX7_dueAt_23 ?_
    refine wp_icmp_ge 144 dX7_dueAt_24 rfl (by first | assumption | exact hR _ | exact bI_r _ | (unfold r32; omega)) ⟨by omega, by omega⟩ (fun c24 => ?_) (fun c24 => ?_)
    · exfalso; omega
    · refine wp_iconst dX7_dueAt_27 ?_
      refine wp_istore (L' := [some (vR 51), some (vI j), some (vL u), none, some (vI i), some (vL z), none, some (vI t), some (vI 0), y0, y1, y2, none]) dX7_dueAt_28 (by decide) rfl ?_
      refine lp_da m51 m52 hI hBB hu (by omega) 6 0 z _ _ _ (by omega) (by omega) (by rw [show 60 * t + 10 * 0 = 60 * t by omega]; exact q3) (fun z' y0 y1 y2 q4 => ?_)
      refine wp_iinc (L' := [some (vR 51), some (vI j), some (vL u), none, some (vI i), some (vL z'), none, some (vI (t + 1)), some (vI 6), y0, y1, y2, none]) dX7_dueAt_138 rfl rfl ?_
      refine wp_goto 21 dX7_dueAt_141 rfl ?_
      exact ih (t + 1) z' _ _ _ _ (by omega) (by omega) (by rw [show 60 * (t + 1) = 60 * t + 60 by omega]; exact q4) hQ
end DU
