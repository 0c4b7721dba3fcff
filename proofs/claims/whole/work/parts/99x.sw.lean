/-! storm, the reference's round -/
def SR (h0 h : AH) (g hs : Int → Int) : Prop := h.length = h0.length ∧ (∀ i, i ≠ 52 → i ≠ 64 → i ≠ 65 → h[i]? = h0[i]?) ∧ h[52]? = some (oI 1014 g) ∧ h[64]? = some (oZ 6 hs) ∧ ∃ L, h[65]? = some (oZ 6 L)
def HR (cl w hs : Int → Int) : Prop := ∀ j, 0 ≤ j ∧ j < 6 → w j = cl j - hs j ∧ (hs j = 0 ∨ hs j = 1) ∧ hs j ≤ cl j
section SW_
variable {X : XS} {h h0 : AH} {Q : Option AV → AH → Prop} {Kp : Int → Int} {dn km ln at_ ft ac mn om fw mo un ik x k tk : Int} {b : Nat × Nat}
theorem AK.rd {B : Int} {f g : Int → Int} {c : Int} (h : AK B f g) (hc : 0 ≤ c ∧ c < 6) (hBB : B ≤ 8000000) : (∀ j, r32 (g j)) ∧ (0 ≤ g (hA c + 0) ∧ g (hA c + 0) < 6) ∧ (-1 ≤ g (hA c + 1) ∧ g (hA c + 1) < 10) := ⟨h.2.1.r (by omega), (h.2.1.cl hc).1, (h.2.1.cl hc).2.1⟩
theorem clF_at {c : Int} (hc : 0 ≤ c ∧ c < 6) : clF x c = x / pw c % 2 := if_pos hc
theorem s1_x {c : Int} (hx : 0 ≤ x ∧ x < 64) (hc : 0 ≤ c ∧ c < 6) : Int32.ofInt (x / pw c) &&& Int32.ofInt 1 = Int32.ofInt (clF x c) := by rw [clF_at hc]; exact (sr_x hx hc).2
set_option maxHeartbeats 2000000 in
theorem lp_r1 (m51 : h0[51]? = some (oO 7 (mF dn km ln at_ ft ac mn om fw mo un ik))) (hx : 0 ≤ x ∧ x < 64) (hk : 0 ≤ k ∧ k < 10) (ht : tk = 0 ∨ tk = 1) : ∀ (m : Nat) (c : Int) (w f g hs : Int → Int) (B : Int) (h : AH) (y5 : Option AV), c + m = 6 → 0 ≤ c → AK B f g → 1000 ≤ B → B + 1000 * m ≤ 8000000 → SR h0 h g hs → HR (clF x) w hs → (∀ h' hs' y5, SR h0 h' (rO k tk m c w g).2 hs' → HR (clF x) (rO k tk m c w g).1 hs' → Wp X kX7_stormRound 83 [some (vR 51), some (vI x), some (vI k), some (vI tk), some (vI 6), y5] [] h' b Q) → Wp X kX7_stormRound 3 [some (vR 51), some (vI x), some (vI k), some (vI tk), some (vI c), y5] [] h b Q := by
  intro m
  induction m with
  | zero =>
    intro c w f g hs B h y5 q1 q2 hK hB hBB hs0 hr hQ
    have e : c = 6 := by omega
    subst e
    obtain ⟨s1, s2, s52, s64, ⟨Lo, s65⟩⟩ := id hs0
    have s51 := (s2 51 (by decide) (by decide) (by decide)).trans m51
    refine wp_iload dX7_stormRound_3 rfl ?_
    refine wp_bipush dX7_stormRound_5 rfl ?_
    refine wp_icmp_ge 83 dX7_stormRound_7 rfl ⟨by omega, by omega⟩ ⟨by omega, by omega⟩ (fun c7 => ?_) (fun c7 => absurd c7 (by omega))
    exact hQ _ _ _ hs0 hr
  | succ m ih =>
    intro c w f g hs B h y5 q1 q2 hK hB hBB hs0 hr hQ
    obtain ⟨s1, s2, s52, s64, ⟨Lo, s65⟩⟩ := id hs0
    have s51 := (s2 51 (by decide) (by decide) (by decide)).trans m51
    have hc : 0 ≤ c ∧ c < 6 := by omega
    have rd := hK.rd hc (by omega)
    have hR := rd.1
    have hI := hK.2.1
    have q := hK.get (c := c) (k := k) ⟨hB, by omega⟩ hc hk
    have ra := q.2.2
    have ra6 : r64 (spGet g c k).1 := r64_of ra
    have hrc := hr c hc
    have c01 := clF_wb (x := x) c
    unfold rO stO at hQ
    refine wp_iload dX7_stormRound_3 rfl ?_
    refine wp_bipush dX7_stormRound_5 rfl ?_
    refine wp_icmp_ge 83 dX7_stormRound_7 rfl (by first | assumption | exact hR _ | (unfold r32; omega)) ⟨by omega, by omega⟩ (fun c7 => ?_) (fun c7 => ?_)
    · exfalso; omega
    · refine wp_iload_n dX7_stormRound_10 rfl ?_
      refine wp_iload dX7_stormRound_11 rfl ?_
      refine wp_ishr (z := x / pw c) dX7_stormRound_13 (sr_x hx hc).1 ?_
      refine wp_iconst dX7_stormRound_14 ?_
      refine wp_iand (z := clF x c) dX7_stormRound_15 (s1_x hx hc) ?_
      refine wp_iconst dX7_stormRound_16 ?_
      refine wp_icmp_ne 77 dX7_stormRound_17 rfl (by first | assumption | exact hR _ | (unfold r32; omega)) ⟨by omega, by omega⟩ (fun c17 => ?_) (fun c17 => ?_)
      · refine wp_iinc (L' := [some (vR 51), some (vI x), some (vI k), some (vI tk), some (vI (c + 1)), y5]) dX7_stormRound_77 rfl rfl ?_
        refine wp_goto 3 dX7_stormRound_80 rfl ?_
        rw [if_neg (by omega)] at hQ
        exact ih (c + 1) w f g hs B _ _ (by omega) (by omega) hK hB (by omega) hs0 hr hQ
      · refine wp_aload_n dX7_stormRound_20 rfl ?_
        refine wp_getf dX7_stormRound_21 fX7_64 s51 rfl ?_
        refine wp_iload dX7_stormRound_24 rfl ?_
        refine wp_zav (v := hs c) dX7_stormRound_26 s64 (by decide) (by omega) rfl ?_
        refine wp_if_ne 77 dX7_stormRound_27 rfl (by first | assumption | exact hR _ | (unfold r32; omega)) (fun c27 => ?_) (fun c27 => ?_)
        · refine wp_iinc (L' := [some (vR 51), some (vI x), some (vI k), some (vI tk), some (vI (c + 1)), y5]) dX7_stormRound_77 rfl rfl ?_
          refine wp_goto 3 dX7_stormRound_80 rfl ?_
          rw [if_neg (by omega)] at hQ
          exact ih (c + 1) w f g hs B _ _ (by omega) (by omega) hK hB (by omega) hs0 hr hQ
        · refine wp_aload_n dX7_stormRound_30 rfl ?_
          refine wp_iload dX7_stormRound_31 rfl ?_
          refine wp_iload_n dX7_stormRound_33 rfl ?_
          refine wp_iv2 dX7_stormRound_34 VX7_doGet lX7_161 s51 (rq0 rfl rfl) (Nat.le_of_ble_eq_true rfl) (sa_of s52 (C_doGet (sa_mk (by decide) s51 rfl s52) hI.bd (by omega) hc hk rd.2.1 ?_))
          dsimp only [pushR]
          refine wp_istore (L' := [some (vR 51), some (vI x), some (vI k), some (vI tk), some (vI c), some (vI ((spGet g c k).1))]) dX7_stormRound_37 (by decide) rfl ?_
          refine wp_aload_n dX7_stormRound_39 rfl ?_
          refine wp_getf dX7_stormRound_40 fX7_64 (gs_ne (by decide) s51) rfl ?_
          refine wp_iload dX7_stormRound_43 rfl ?_
          refine wp_iload dX7_stormRound_45 rfl ?_
          refine wp_i2l dX7_stormRound_47 (by first | assumption | exact hR _ | (unfold r32; omega)) ?_
          refine wp_lconst (z := 0) dX7_stormRound_48 rfl ?_
          refine wp_ldc2 dX7_stormRound_49 cX7_173 ?_
          refine wp_is3 dX7_stormRound_52 SX7_in lX7_94 (rq0 rfl rfl) (Nat.le_of_ble_eq_true rfl) (C_in (by first | assumption | exact r64_of (hR _) | (unfold r64 r32 at *; omega)) (by first | assumption | exact r64_of (hR _) | (unfold r64 r32 at *; omega)) (by first | assumption | exact r64_of (hR _) | (unfold r64 r32 at *; omega)) ?_)
          dsimp only [pushR]
          refine wp_bne 71 dX7_stormRound_55 rfl (fun c55 => ?_) (fun c55 => ?_)
          · refine wp_iconst dX7_stormRound_71 ?_
            refine wp_goto 76 dX7_stormRound_72 rfl ?_
            refine wp_zsv dX7_stormRound_76 (gs_ne (by decide) s64) (by decide) (by omega) (Or.inr rfl) ?_
            refine wp_iinc (L' := [some (vR 51), some (vI x), some (vI k), some (vI tk), some (vI (c + 1)), some (vI ((spGet g c k).1))]) dX7_stormRound_77 rfl rfl ?_
            refine wp_goto 3 dX7_stormRound_80 rfl ?_
            rw [if_pos (by omega), if_pos (by omega)] at hQ
            exact ih (c + 1) _ _ _ _ (B + 1000) _ _ (by omega) (by omega) q.2.1 (by omega) (by omega) ⟨by simp only [List.length_set]; exact s1, fun j q52 q64 q65 => by (repeat rw [List.getElem?_set_ne (by omega)]); exact s2 j q52 q64 q65, (gs_ne (by decide) (gs_eq (gs_lt s52))), (gs_eq (gs_l (gs_lt s64))), ⟨_, (gs_ne (by decide) (gs_ne (by decide) s65))⟩⟩ (fun j hj => by rcases Decidable.em (j = c) with e | e; rw [e, ud_eq, ud_eq]; omega; rw [ud_ne e, ud_ne e]; exact hr j hj) hQ
          · refine wp_iload_n dX7_stormRound_58 rfl ?_
            refine wp_iconst dX7_stormRound_59 ?_
            refine wp_icmp_ne 75 dX7_stormRound_60 rfl (by first | assumption | exact hR _ | (unfold r32; omega)) ⟨by omega, by omega⟩ (fun c60 => ?_) (fun c60 => ?_)
            · refine wp_iconst dX7_stormRound_75 ?_
              refine wp_zsv dX7_stormRound_76 (gs_ne (by decide) s64) (by decide) (by omega) (Or.inl rfl) ?_
              refine wp_iinc (L' := [some (vR 51), some (vI x), some (vI k), some (vI tk), some (vI (c + 1)), some (vI ((spGet g c k).1))]) dX7_stormRound_77 rfl rfl ?_
              refine wp_goto 3 dX7_stormRound_80 rfl ?_
              rw [if_pos (by omega), if_neg (by omega)] at hQ
              exact ih (c + 1) _ _ _ _ (B + 1000) _ _ (by omega) (by omega) q.2.1 (by omega) (by omega) ⟨by simp only [List.length_set]; exact s1, fun j q52 q64 q65 => by (repeat rw [List.getElem?_set_ne (by omega)]); exact s2 j q52 q64 q65, (gs_ne (by decide) (gs_eq (gs_lt s52))), (gs_eq (gs_l (gs_lt s64))), ⟨_, (gs_ne (by decide) (gs_ne (by decide) s65))⟩⟩ (fun j hj => by rcases Decidable.em (j = c) with e | e; rw [e, ud_eq]; omega; rw [ud_ne e]; exact hr j hj) hQ
            · refine wp_iload dX7_stormRound_63 rfl ?_
              refine wp_sipush dX7_stormRound_65 rfl ?_
              refine wp_icmp_lt 75 dX7_stormRound_68 rfl (by first | assumption | exact hR _ | (unfold r32; omega)) ⟨by omega, by omega⟩ (fun c68 => ?_) (fun c68 => ?_)
              · refine wp_iconst dX7_stormRound_75 ?_
                refine wp_zsv dX7_stormRound_76 (gs_ne (by decide) s64) (by decide) (by omega) (Or.inl rfl) ?_
                refine wp_iinc (L' := [some (vR 51), some (vI x), some (vI k), some (vI tk), some (vI (c + 1)), some (vI ((spGet g c k).1))]) dX7_stormRound_77 rfl rfl ?_
                refine wp_goto 3 dX7_stormRound_80 rfl ?_
                rw [if_pos (by omega), if_neg (by omega)] at hQ
                exact ih (c + 1) _ _ _ _ (B + 1000) _ _ (by omega) (by omega) q.2.1 (by omega) (by omega) ⟨by simp only [List.length_set]; exact s1, fun j q52 q64 q65 => by (repeat rw [List.getElem?_set_ne (by omega)]); exact s2 j q52 q64 q65, (gs_ne (by decide) (gs_eq (gs_lt s52))), (gs_eq (gs_l (gs_lt s64))), ⟨_, (gs_ne (by decide) (gs_ne (by decide) s65))⟩⟩ (fun j hj => by rcases Decidable.em (j = c) with e | e; rw [e, ud_eq]; omega; rw [ud_ne e]; exact hr j hj) hQ
              · refine wp_iconst dX7_stormRound_71 ?_
                refine wp_goto 76 dX7_stormRound_72 rfl ?_
                refine wp_zsv dX7_stormRound_76 (gs_ne (by decide) s64) (by decide) (by omega) (Or.inr rfl) ?_
                refine wp_iinc (L' := [some (vR 51), some (vI x), some (vI k), some (vI tk), some (vI (c + 1)), some (vI ((spGet g c k).1))]) dX7_stormRound_77 rfl rfl ?_
                refine wp_goto 3 dX7_stormRound_80 rfl ?_
                rw [if_pos (by omega), if_pos (by omega)] at hQ
                exact ih (c + 1) _ _ _ _ (B + 1000) _ _ (by omega) (by omega) q.2.1 (by omega) (by omega) ⟨by simp only [List.length_set]; exact s1, fun j q52 q64 q65 => by (repeat rw [List.getElem?_set_ne (by omega)]); exact s2 j q52 q64 q65, (gs_ne (by decide) (gs_eq (gs_lt s52))), (gs_eq (gs_l (gs_lt s64))), ⟨_, (gs_ne (by decide) (gs_ne (by decide) s65))⟩⟩ (fun j hj => by rcases Decidable.em (j = c) with e | e; rw [e, ud_eq, ud_eq]; omega; rw [ud_ne e, ud_ne e]; exact hr j hj) hQ
theorem stK_sub {H : (Int → Int) → Int → Int} {G : (Int → Int) → Int → Int × (Int → Int)} {w : Int → Int} : ∀ (m : Nat) (c : Int) (lk f : Int → Int), (∀ j, lk j = 1 → w j = 1) → ∀ j, (stK H G m c w lk f).1 j = 1 → w j = 1 := by
  intro m
  induction m with
  | zero => intro c lk f h; exact h
  | succ m ih =>
    intro c lk f h
    unfold stK
    split
    · rename_i cc
      refine ih _ _ _ (fun j hj => ?_)
      rcases Decidable.em (j = c) with e | e
      · rw [e]; exact cc.1
      · rw [ud_ne e] at hj; exact h j hj
    · exact ih _ _ _ h
def SR2 (h0 h : AH) (g hs Lo : Int → Int) : Prop := h.length = h0.length ∧ (∀ i, i ≠ 52 → i ≠ 64 → i ≠ 65 → h[i]? = h0[i]?) ∧ h[52]? = some (oI 1014 g) ∧ h[64]? = some (oZ 6 hs) ∧ h[65]? = some (oZ 6 Lo)
set_option maxHeartbeats 2000000 in
theorem lp_r2 {w hs : Int → Int} (m51 : h0[51]? = some (oO 7 (mF dn km ln at_ ft ac mn om fw mo un ik))) (hx : 0 ≤ x ∧ x < 64) (hk : 0 ≤ k ∧ k < 10) (hr : HR (clF x) w hs) : ∀ (m : Nat) (c : Int) (lk Lo f g : Int → Int) (B : Int) (h : AH) (y5 : Option AV), c + m = 6 → 0 ≤ c → AK B f g → 1000 ≤ B → B + 1000 * m ≤ 8000000 → SR2 h0 h g hs Lo → WB lk → (∀ j, c ≤ j → lk j = 0) → (∀ j, 0 ≤ j ∧ j < c → Lo j = lk j) → (∀ h' Lo' y5, SR2 h0 h' (rL k m c w lk g).2 hs Lo' → (∀ j, 0 ≤ j ∧ j < 6 → Lo' j = (rL k m c w lk g).1 j) → Wp X kX7_stormRound 164 [some (vR 51), some (vI x), some (vI k), some (vI tk), some (vI 6), y5] [] h' b Q) → Wp X kX7_stormRound 86 [some (vR 51), some (vI x), some (vI k), some (vI tk), some (vI c), y5] [] h b Q := by
  intro m
  induction m with
  | zero =>
    intro c lk Lo f g B h y5 q1 q2 hK hB hBB hs0 hl hz hj hQ
    have e : c = 6 := by omega
    subst e
    obtain ⟨s1, s2, s52, s64, s65⟩ := id hs0
    have s51 := (s2 51 (by decide) (by decide) (by decide)).trans m51
    refine wp_iload dX7_stormRound_86 rfl ?_
    refine wp_bipush dX7_stormRound_88 rfl ?_
    refine wp_icmp_ge 164 dX7_stormRound_90 rfl ⟨by omega, by omega⟩ ⟨by omega, by omega⟩ (fun c90 => ?_) (fun c90 => absurd c90 (by omega))
    exact hQ _ _ _ hs0 hj
  | succ m ih =>
    intro c lk Lo f g B h y5 q1 q2 hK hB hBB hs0 hl hz hj hQ
    obtain ⟨s1, s2, s52, s64, s65⟩ := id hs0
    have s51 := (s2 51 (by decide) (by decide) (by decide)).trans m51
    have hc : 0 ≤ c ∧ c < 6 := by omega
    have rd := hK.rd hc (by omega)
    have hR := rd.1
    have hI := hK.2.1
    have hb := hA_b hc
    have q := hK.look (c := c) ⟨hB, by omega⟩ hc
    have hrc := hr c hc
    have c01 := clF_wb (x := x) c
    have lz := hz c (by omega)
    have hh : rHf g c k = if g (hA c + 1) = k then 1 else 0 := rfl
    unfold rL stK at hQ
    refine wp_iload dX7_stormRound_86 rfl ?_
    refine wp_bipush dX7_stormRound_88 rfl ?_
    refine wp_icmp_ge 164 dX7_stormRound_90 rfl (by first | assumption | exact hR _ | (unfold r32; omega)) ⟨by omega, by omega⟩ (fun c90 => ?_) (fun c90 => ?_)
    · exfalso; omega
    · refine wp_aload_n dX7_stormRound_93 rfl ?_
      refine wp_getf dX7_stormRound_94 fX7_67 s51 rfl ?_
      refine wp_iload dX7_stormRound_97 rfl ?_
      refine wp_iload_n dX7_stormRound_99 rfl ?_
      refine wp_iload dX7_stormRound_100 rfl ?_
      refine wp_ishr (z := x / pw c) dX7_stormRound_102 (sr_x hx hc).1 ?_
      refine wp_iconst dX7_stormRound_103 ?_
      refine wp_iand (z := clF x c) dX7_stormRound_104 (s1_x hx hc) ?_
      refine wp_iconst dX7_stormRound_105 ?_
      refine wp_icmp_ne 139 dX7_stormRound_106 rfl (by first | assumption | exact hR _ | (unfold r32; omega)) ⟨by omega, by omega⟩ (fun c106 => ?_) (fun c106 => ?_)
      · refine wp_iconst dX7_stormRound_139 ?_
        refine wp_zsv dX7_stormRound_140 s65 (by decide) (by omega) (Or.inl rfl) ?_
        refine wp_aload_n dX7_stormRound_141 rfl ?_
        refine wp_getf dX7_stormRound_142 fX7_67 (gs_ne (by decide) s51) rfl ?_
        refine wp_iload dX7_stormRound_145 rfl ?_
        refine wp_zav (v := 0) dX7_stormRound_147 (gs_eq (gs_lt s65)) (by decide) (by omega) (by rw [ud_eq] <;> rfl) ?_
        refine wp_if_eq 158 dX7_stormRound_148 rfl (by first | assumption | exact hR _ | (unfold r32; omega)) (fun c148 => ?_) (fun c148 => ?_)
        · refine wp_iinc (L' := [some (vR 51), some (vI x), some (vI k), some (vI tk), some (vI (c + 1)), y5]) dX7_stormRound_158 rfl rfl ?_
          refine wp_goto 86 dX7_stormRound_161 rfl ?_
          rw [if_neg (by rw [hh]; split <;> omega)] at hQ
          exact ih (c + 1) lk _ _ _ B _ _ (by omega) (by omega) hK hB (by omega) ⟨by simp only [List.length_set]; exact s1, fun j q52 q64 q65 => by (repeat rw [List.getElem?_set_ne (by omega)]); exact s2 j q52 q64 q65, (gs_ne (by decide) s52), (gs_ne (by decide) s64), (gs_eq (gs_lt s65))⟩ hl (fun j a => hz j (by omega)) (fun j a => by rcases Decidable.em (j = c) with e | e; rw [e, ud_eq]; omega; rw [ud_ne e]; exact hj j (by omega)) hQ
        · refine wp_aload_n dX7_stormRound_151 rfl ?_
          refine wp_iload dX7_stormRound_152 rfl ?_
          refine wp_iv1 dX7_stormRound_154 VX7_doLook lX7_167 (gs_ne (by decide) s51) (rq0 rfl rfl) (Nat.le_of_ble_eq_true rfl) (sa_of (gs_ne (by decide) s52) (C_doLook (sa_mk (by decide) (gs_ne (by decide) s51) rfl (gs_ne (by decide) s52)) hI.bd (by omega) hc rd.2.2 rd.2.1 (hI.n60 (by omega)) (fun r hr => hI.n60 (by omega)) ?_))
          dsimp only [pushR]
          refine wp_pop dX7_stormRound_157 rfl ?_
          refine wp_iinc (L' := [some (vR 51), some (vI x), some (vI k), some (vI tk), some (vI (c + 1)), y5]) dX7_stormRound_158 rfl rfl ?_
          refine wp_goto 86 dX7_stormRound_161 rfl ?_
          first | (exfalso; omega) | (rw [if_pos (by rw [hh, if_pos (by omega)]; omega)] at hQ; exact ih (c + 1) _ _ _ _ (B + 1000) _ _ (by omega) (by omega) q.2 (by omega) (by omega) ⟨by simp only [List.length_set]; exact s1, fun j q52 q64 q65 => by (repeat rw [List.getElem?_set_ne (by omega)]); exact s2 j q52 q64 q65, (gs_eq (gs_l (gs_lt s52))), (gs_ne (by decide) (gs_ne (by decide) s64)), (gs_ne (by decide) (gs_eq (gs_lt s65)))⟩ (hl.s hc) (fun j a => by rw [ud_ne (by omega)]; exact hz j (by omega)) (fun j a => by rcases Decidable.em (j = c) with e | e; rw [e, ud_eq, ud_eq]; rw [ud_ne e, ud_ne e]; exact hj j (by omega)) hQ)
      · refine wp_aload_n dX7_stormRound_109 rfl ?_
        refine wp_getf dX7_stormRound_110 fX7_64 s51 rfl ?_
        refine wp_iload dX7_stormRound_113 rfl ?_
        refine wp_zav (v := hs c) dX7_stormRound_115 s64 (by decide) (by omega) rfl ?_
        refine wp_if_ne 139 dX7_stormRound_116 rfl (by first | assumption | exact hR _ | (unfold r32; omega)) (fun c116 => ?_) (fun c116 => ?_)
        · refine wp_iconst dX7_stormRound_139 ?_
          refine wp_zsv dX7_stormRound_140 s65 (by decide) (by omega) (Or.inl rfl) ?_
          refine wp_aload_n dX7_stormRound_141 rfl ?_
          refine wp_getf dX7_stormRound_142 fX7_67 (gs_ne (by decide) s51) rfl ?_
          refine wp_iload dX7_stormRound_145 rfl ?_
          refine wp_zav (v := 0) dX7_stormRound_147 (gs_eq (gs_lt s65)) (by decide) (by omega) (by rw [ud_eq] <;> rfl) ?_
          refine wp_if_eq 158 dX7_stormRound_148 rfl (by first | assumption | exact hR _ | (unfold r32; omega)) (fun c148 => ?_) (fun c148 => ?_)
          · refine wp_iinc (L' := [some (vR 51), some (vI x), some (vI k), some (vI tk), some (vI (c + 1)), y5]) dX7_stormRound_158 rfl rfl ?_
            refine wp_goto 86 dX7_stormRound_161 rfl ?_
            rw [if_neg (by rw [hh]; split <;> omega)] at hQ
            exact ih (c + 1) lk _ _ _ B _ _ (by omega) (by omega) hK hB (by omega) ⟨by simp only [List.length_set]; exact s1, fun j q52 q64 q65 => by (repeat rw [List.getElem?_set_ne (by omega)]); exact s2 j q52 q64 q65, (gs_ne (by decide) s52), (gs_ne (by decide) s64), (gs_eq (gs_lt s65))⟩ hl (fun j a => hz j (by omega)) (fun j a => by rcases Decidable.em (j = c) with e | e; rw [e, ud_eq]; omega; rw [ud_ne e]; exact hj j (by omega)) hQ
          · refine wp_aload_n dX7_stormRound_151 rfl ?_
            refine wp_iload dX7_stormRound_152 rfl ?_
            refine wp_iv1 dX7_stormRound_154 VX7_doLook lX7_167 (gs_ne (by decide) s51) (rq0 rfl rfl) (Nat.le_of_ble_eq_true rfl) (sa_of (gs_ne (by decide) s52) (C_doLook (sa_mk (by decide) (gs_ne (by decide) s51) rfl (gs_ne (by decide) s52)) hI.bd (by omega) hc rd.2.2 rd.2.1 (hI.n60 (by omega)) (fun r hr => hI.n60 (by omega)) ?_))
            dsimp only [pushR]
            refine wp_pop dX7_stormRound_157 rfl ?_
            refine wp_iinc (L' := [some (vR 51), some (vI x), some (vI k), some (vI tk), some (vI (c + 1)), y5]) dX7_stormRound_158 rfl rfl ?_
            refine wp_goto 86 dX7_stormRound_161 rfl ?_
            first | (exfalso; omega) | (rw [if_pos (by rw [hh, if_pos (by omega)]; omega)] at hQ; exact ih (c + 1) _ _ _ _ (B + 1000) _ _ (by omega) (by omega) q.2 (by omega) (by omega) ⟨by simp only [List.length_set]; exact s1, fun j q52 q64 q65 => by (repeat rw [List.getElem?_set_ne (by omega)]); exact s2 j q52 q64 q65, (gs_eq (gs_l (gs_lt s52))), (gs_ne (by decide) (gs_ne (by decide) s64)), (gs_ne (by decide) (gs_eq (gs_lt s65)))⟩ (hl.s hc) (fun j a => by rw [ud_ne (by omega)]; exact hz j (by omega)) (fun j a => by rcases Decidable.em (j = c) with e | e; rw [e, ud_eq, ud_eq]; rw [ud_ne e, ud_ne e]; exact hj j (by omega)) hQ)
        · refine wp_aload_n dX7_stormRound_119 rfl ?_
          refine wp_getf dX7_stormRound_120 fX7_9 s51 rfl ?_
          refine wp_iload dX7_stormRound_123 rfl ?_
          refine wp_is1 dX7_stormRound_125 SX7_hand lX7_82 (rq0 rfl rfl) (Nat.le_of_ble_eq_true rfl) (C_hand ?_)
          dsimp only [pushR]
          refine wp_iconst dX7_stormRound_128 ?_
          refine wp_iadd dX7_stormRound_129 ?_
          refine wp_iav (v := g (hA c + 1)) dX7_stormRound_130 s52 (by decide) (by omega) rfl ?_
          refine wp_iload_n dX7_stormRound_131 rfl ?_
          refine wp_icmp_ne 139 dX7_stormRound_132 rfl (by first | assumption | exact hR _ | (unfold r32; omega)) (by first | assumption | exact hR _ | (unfold r32; omega)) (fun c132 => ?_) (fun c132 => ?_)
          · refine wp_iconst dX7_stormRound_139 ?_
            refine wp_zsv dX7_stormRound_140 s65 (by decide) (by omega) (Or.inl rfl) ?_
            refine wp_aload_n dX7_stormRound_141 rfl ?_
            refine wp_getf dX7_stormRound_142 fX7_67 (gs_ne (by decide) s51) rfl ?_
            refine wp_iload dX7_stormRound_145 rfl ?_
            refine wp_zav (v := 0) dX7_stormRound_147 (gs_eq (gs_lt s65)) (by decide) (by omega) (by rw [ud_eq] <;> rfl) ?_
            refine wp_if_eq 158 dX7_stormRound_148 rfl (by first | assumption | exact hR _ | (unfold r32; omega)) (fun c148 => ?_) (fun c148 => ?_)
            · refine wp_iinc (L' := [some (vR 51), some (vI x), some (vI k), some (vI tk), some (vI (c + 1)), y5]) dX7_stormRound_158 rfl rfl ?_
              refine wp_goto 86 dX7_stormRound_161 rfl ?_
              rw [if_neg (by rw [hh]; split <;> omega)] at hQ
              exact ih (c + 1) lk _ _ _ B _ _ (by omega) (by omega) hK hB (by omega) ⟨by simp only [List.length_set]; exact s1, fun j q52 q64 q65 => by (repeat rw [List.getElem?_set_ne (by omega)]); exact s2 j q52 q64 q65, (gs_ne (by decide) s52), (gs_ne (by decide) s64), (gs_eq (gs_lt s65))⟩ hl (fun j a => hz j (by omega)) (fun j a => by rcases Decidable.em (j = c) with e | e; rw [e, ud_eq]; omega; rw [ud_ne e]; exact hj j (by omega)) hQ
            · refine wp_aload_n dX7_stormRound_151 rfl ?_
              refine wp_iload dX7_stormRound_152 rfl ?_
              refine wp_iv1 dX7_stormRound_154 VX7_doLook lX7_167 (gs_ne (by decide) s51) (rq0 rfl rfl) (Nat.le_of_ble_eq_true rfl) (sa_of (gs_ne (by decide) s52) (C_doLook (sa_mk (by decide) (gs_ne (by decide) s51) rfl (gs_ne (by decide) s52)) hI.bd (by omega) hc rd.2.2 rd.2.1 (hI.n60 (by omega)) (fun r hr => hI.n60 (by omega)) ?_))
              dsimp only [pushR]
              refine wp_pop dX7_stormRound_157 rfl ?_
              refine wp_iinc (L' := [some (vR 51), some (vI x), some (vI k), some (vI tk), some (vI (c + 1)), y5]) dX7_stormRound_158 rfl rfl ?_
              refine wp_goto 86 dX7_stormRound_161 rfl ?_
              first | (exfalso; omega) | (rw [if_pos (by rw [hh, if_pos (by omega)]; omega)] at hQ; exact ih (c + 1) _ _ _ _ (B + 1000) _ _ (by omega) (by omega) q.2 (by omega) (by omega) ⟨by simp only [List.length_set]; exact s1, fun j q52 q64 q65 => by (repeat rw [List.getElem?_set_ne (by omega)]); exact s2 j q52 q64 q65, (gs_eq (gs_l (gs_lt s52))), (gs_ne (by decide) (gs_ne (by decide) s64)), (gs_ne (by decide) (gs_eq (gs_lt s65)))⟩ (hl.s hc) (fun j a => by rw [ud_ne (by omega)]; exact hz j (by omega)) (fun j a => by rcases Decidable.em (j = c) with e | e; rw [e, ud_eq, ud_eq]; rw [ud_ne e, ud_ne e]; exact hj j (by omega)) hQ)
          · refine wp_iconst dX7_stormRound_135 ?_
            refine wp_goto 140 dX7_stormRound_136 rfl ?_
            refine wp_zsv dX7_stormRound_140 s65 (by decide) (by omega) (Or.inr rfl) ?_
            refine wp_aload_n dX7_stormRound_141 rfl ?_
            refine wp_getf dX7_stormRound_142 fX7_67 (gs_ne (by decide) s51) rfl ?_
            refine wp_iload dX7_stormRound_145 rfl ?_
            refine wp_zav (v := 1) dX7_stormRound_147 (gs_eq (gs_lt s65)) (by decide) (by omega) (by rw [ud_eq] <;> rfl) ?_
            refine wp_if_eq 158 dX7_stormRound_148 rfl (by first | assumption | exact hR _ | (unfold r32; omega)) (fun c148 => ?_) (fun c148 => ?_)
            · refine wp_iinc (L' := [some (vR 51), some (vI x), some (vI k), some (vI tk), some (vI (c + 1)), y5]) dX7_stormRound_158 rfl rfl ?_
              refine wp_goto 86 dX7_stormRound_161 rfl ?_
              rw [if_neg (by rw [hh]; split <;> omega)] at hQ
              exact ih (c + 1) lk _ _ _ B _ _ (by omega) (by omega) hK hB (by omega) ⟨by simp only [List.length_set]; exact s1, fun j q52 q64 q65 => by (repeat rw [List.getElem?_set_ne (by omega)]); exact s2 j q52 q64 q65, (gs_ne (by decide) s52), (gs_ne (by decide) s64), (gs_eq (gs_lt s65))⟩ hl (fun j a => hz j (by omega)) (fun j a => by rcases Decidable.em (j = c) with e | e; rw [e, ud_eq]; omega; rw [ud_ne e]; exact hj j (by omega)) hQ
            · refine wp_aload_n dX7_stormRound_151 rfl ?_
              refine wp_iload dX7_stormRound_152 rfl ?_
              refine wp_iv1 dX7_stormRound_154 VX7_doLook lX7_167 (gs_ne (by decide) s51) (rq0 rfl rfl) (Nat.le_of_ble_eq_true rfl) (sa_of (gs_ne (by decide) s52) (C_doLook (sa_mk (by decide) (gs_ne (by decide) s51) rfl (gs_ne (by decide) s52)) hI.bd (by omega) hc rd.2.2 rd.2.1 (hI.n60 (by omega)) (fun r hr => hI.n60 (by omega)) ?_))
              dsimp only [pushR]
              refine wp_pop dX7_stormRound_157 rfl ?_
              refine wp_iinc (L' := [some (vR 51), some (vI x), some (vI k), some (vI tk), some (vI (c + 1)), y5]) dX7_stormRound_158 rfl rfl ?_
              refine wp_goto 86 dX7_stormRound_161 rfl ?_
              first | (exfalso; omega) | (rw [if_pos (by rw [hh, if_pos (by omega)]; omega)] at hQ; exact ih (c + 1) _ _ _ _ (B + 1000) _ _ (by omega) (by omega) q.2 (by omega) (by omega) ⟨by simp only [List.length_set]; exact s1, fun j q52 q64 q65 => by (repeat rw [List.getElem?_set_ne (by omega)]); exact s2 j q52 q64 q65, (gs_eq (gs_l (gs_lt s52))), (gs_ne (by decide) (gs_ne (by decide) s64)), (gs_ne (by decide) (gs_eq (gs_lt s65)))⟩ (hl.s hc) (fun j a => by rw [ud_ne (by omega)]; exact hz j (by omega)) (fun j a => by rcases Decidable.em (j = c) with e | e; rw [e, ud_eq, ud_eq]; rw [ud_ne e, ud_ne e]; exact hj j (by omega)) hQ)
set_option maxHeartbeats 2000000 in
theorem lp_r3 {lk Lo : Int → Int} (m51 : h0[51]? = some (oO 7 (mF dn km ln at_ ft ac mn om fw mo un ik))) (hl : WB lk) (hLo : ∀ j, 0 ≤ j ∧ j < 6 → Lo j = lk j) : ∀ (m : Nat) (c : Int) (f g hs : Int → Int) (B : Int) (h : AH) (y5 : Option AV), c + m = 6 → 0 ≤ c → AK B f g → 1000 ≤ B → B + 1000 * m ≤ 8000000 → SR2 h0 h g hs Lo → (∀ h' hs', SR2 h0 h' (rFl m c lk g) hs' Lo → (∀ j, 0 ≤ j ∧ j < 6 → hs' j = if c ≤ j ∧ lk j = 1 then 1 else hs j) → Q none h') → Wp X kX7_stormRound 167 [some (vR 51), some (vI x), some (vI k), some (vI tk), some (vI c), y5] [] h b Q := by
  intro m
  induction m with
  | zero =>
    intro c f g hs B h y5 q1 q2 hK hB hBB hs0 hQ
    have e : c = 6 := by omega
    subst e
    obtain ⟨s1, s2, s52, s64, s65⟩ := id hs0
    have s51 := (s2 51 (by decide) (by decide) (by decide)).trans m51
    refine wp_iload dX7_stormRound_167 rfl ?_
    refine wp_bipush dX7_stormRound_169 rfl ?_
    refine wp_icmp_ge 205 dX7_stormRound_171 rfl ⟨by omega, by omega⟩ ⟨by omega, by omega⟩ (fun c171 => ?_) (fun c171 => absurd c171 (by omega))
    exact wp_ret dX7_stormRound_205 rfl (hQ _ _ hs0 (fun j hj => by rw [if_neg (by omega)]))
  | succ m ih =>
    intro c f g hs B h y5 q1 q2 hK hB hBB hs0 hQ
    obtain ⟨s1, s2, s52, s64, s65⟩ := id hs0
    have s51 := (s2 51 (by decide) (by decide) (by decide)).trans m51
    have hc : 0 ≤ c ∧ c < 6 := by omega
    have rd := hK.rd hc (by omega)
    have hR := rd.1
    have hI := hK.2.1
    have q := hK.fill (c := c) ⟨hB, by omega⟩ hc
    have l01 := hl c
    have lo := hLo c hc
    unfold rFl stF at hQ
    refine wp_iload dX7_stormRound_167 rfl ?_
    refine wp_bipush dX7_stormRound_169 rfl ?_
    refine wp_icmp_ge 205 dX7_stormRound_171 rfl (by first | assumption | exact hR _ | (unfold r32; omega)) ⟨by omega, by omega⟩ (fun c171 => ?_) (fun c171 => ?_)
    · exact wp_ret dX7_stormRound_205 rfl (False.elim (by omega))
    · refine wp_aload_n dX7_stormRound_174 rfl ?_
      refine wp_getf dX7_stormRound_175 fX7_67 s51 rfl ?_
      refine wp_iload dX7_stormRound_178 rfl ?_
      refine wp_zav (v := Lo c) dX7_stormRound_180 s65 (by decide) (by omega) rfl ?_
      refine wp_if_eq 199 dX7_stormRound_181 rfl (by first | assumption | exact hR _ | (unfold r32; omega)) (fun c181 => ?_) (fun c181 => ?_)
      · refine wp_iinc (L' := [some (vR 51), some (vI x), some (vI k), some (vI tk), some (vI (c + 1)), y5]) dX7_stormRound_199 rfl rfl ?_
        refine wp_goto 167 dX7_stormRound_202 rfl ?_
        rw [if_neg (by omega)] at hQ
        exact ih (c + 1) f g hs B _ _ (by omega) (by omega) hK hB (by omega) hs0 (fun h' hs' a d => hQ h' hs' a (fun j hj => by have q := d j hj; rcases Decidable.em (j = c) with e | e; rw [q, if_neg (by omega), if_neg (by rw [e]; omega)]; rw [q]; (repeat' split) <;> omega))
      · refine wp_aload_n dX7_stormRound_184 rfl ?_
        refine wp_iload dX7_stormRound_185 rfl ?_
        refine wp_iv1 dX7_stormRound_187 VX7_doFill lX7_170 s51 (rq0 rfl rfl) (Nat.le_of_ble_eq_true rfl) (sa_of s52 (C_doFill (sa_mk (by decide) s51 rfl s52) hI.bd (by omega) (by omega) hc rd.2.2 rd.2.1 (hI.n0 (by omega)) hI.set.1.1 ?_))
        dsimp only [pushR]
        refine wp_pop dX7_stormRound_190 rfl ?_
        refine wp_aload_n dX7_stormRound_191 rfl ?_
        refine wp_getf dX7_stormRound_192 fX7_64 (gs_ne (by decide) s51) rfl ?_
        refine wp_iload dX7_stormRound_195 rfl ?_
        refine wp_iconst dX7_stormRound_197 ?_
        refine wp_zsv dX7_stormRound_198 (gs_ne (by decide) s64) (by decide) (by omega) (Or.inr rfl) ?_
        refine wp_iinc (L' := [some (vR 51), some (vI x), some (vI k), some (vI tk), some (vI (c + 1)), y5]) dX7_stormRound_199 rfl rfl ?_
        refine wp_goto 167 dX7_stormRound_202 rfl ?_
        rw [if_pos (by omega)] at hQ
        exact ih (c + 1) _ _ _ (B + 1000) _ _ (by omega) (by omega) q.2 (by omega) (by omega) ⟨by simp only [List.length_set]; exact s1, fun j q52 q64 q65 => by (repeat rw [List.getElem?_set_ne (by omega)]); exact s2 j q52 q64 q65, (gs_ne (by decide) (gs_eq (gs_lt s52))), (gs_eq (gs_l (gs_lt s64))), (gs_ne (by decide) (gs_ne (by decide) s65))⟩ (fun h' hs' a d => hQ h' hs' a (fun j hj => by have q := d j hj; rcases Decidable.em (j = c) with e | e; rw [q, if_neg (by omega), if_pos (by rw [e]; omega), e, ud_eq]; rw [q, ud_ne e]; (repeat' split) <;> omega))
set_option maxHeartbeats 1000000 in
theorem C_stormRound {B : Int} {w f g hs : Int → Int} (m51 : h0[51]? = some (oO 7 (mF dn km ln at_ ft ac mn om fw mo un ik))) (hx : 0 ≤ x ∧ x < 64) (hk : 0 ≤ k ∧ k < 10) (ht : tk = 0 ∨ tk = 1) (hK : AK B f g) (hB : 1000 ≤ B) (hBB : B + 18000 ≤ 8000000) (hs0 : SR h0 h g hs) (hr : HR (clF x) w hs) (hw : WB w) (hQ : ∀ h' hs', SR h0 h' (rRnd k tk w g).2 hs' → HR (clF x) (rRnd k tk w g).1 hs' → Q none h') : Cl X kX7_stormRound [vR 51, vI x, vI k, vI tk] h Q := by
  refine cl_of rfl (Nat.le_of_ble_eq_true rfl) rfl ?_
  have a := stO_eq (tk := tk) hk 6 0 w f g B (by omega) (by omega) hK hB (by omega)
  have a2 := stK_eq hk 6 0 (rO k tk 6 0 w g).1 z0 _ _ (B + 1000 * ((6 : Nat) : Int)) (by omega) (by omega) a.2 (by omega) (by omega)
  have wl : WB (rL k 6 0 (rO k tk 6 0 w g).1 z0 (rO k tk 6 0 w g).2).1 := stK_wb 6 0 _ _ _ (by omega) (by omega) WB.z0
  have sb : ∀ j, (rL k 6 0 (rO k tk 6 0 w g).1 z0 (rO k tk 6 0 w g).2).1 j = 1 → (rO k tk 6 0 w g).1 j = 1 := stK_sub 6 0 z0 _ (fun j hj => absurd hj (by unfold z0; omega))
  refine wp_iconst dX7_stormRound_0 ?_
  refine wp_istore (L' := [some (vR 51), some (vI x), some (vI k), some (vI tk), some (vI 0), none]) dX7_stormRound_1 (by decide) rfl ?_
  refine lp_r1 m51 hx hk ht 6 0 w f g hs B h _ (by omega) (by omega) hK hB (by omega) hs0 hr (fun h1 hs1 y5 t1 r1 => ?_)
  obtain ⟨u1, u2, u52, u64, ⟨Lo1, u65⟩⟩ := id t1
  refine wp_iconst dX7_stormRound_83 ?_
  refine wp_istore (L' := [some (vR 51), some (vI x), some (vI k), some (vI tk), some (vI 0), y5]) dX7_stormRound_84 (by decide) rfl ?_
  refine lp_r2 m51 hx hk r1 6 0 z0 Lo1 _ _ (B + 1000 * ((6 : Nat) : Int)) h1 _ (by omega) (by omega) a.2 (by omega) (by omega) ⟨u1, u2, u52, u64, u65⟩ WB.z0 (fun j _ => rfl) (fun j hj => by omega) (fun h2 Lo2 y6 t2 r2 => ?_)
  refine wp_iconst dX7_stormRound_164 ?_
  refine wp_istore (L' := [some (vR 51), some (vI x), some (vI k), some (vI tk), some (vI 0), y6]) dX7_stormRound_165 (by decide) rfl ?_
  refine lp_r3 m51 wl r2 6 0 _ _ hs1 (B + 1000 * ((6 : Nat) : Int) + 1000 * ((6 : Nat) : Int)) h2 _ (by omega) (by omega) a2.2 (by omega) (by omega) t2 (fun h3 hs3 t3 r3 => ?_)
  refine hQ h3 hs3 ⟨t3.1, t3.2.1, t3.2.2.1, t3.2.2.2.1, ⟨_, t3.2.2.2.2⟩⟩ (fun j hj => ?_)
  have d1 := r1 j hj
  have d3 := r3 j hj
  have d4 := sb j
  have d5 := clF_wb (x := x) j
  show wmL (rO k tk 6 0 w g).1 (rL k 6 0 (rO k tk 6 0 w g).1 z0 (rO k tk 6 0 w g).2).1 j = _ ∧ _
  unfold wmL
  (repeat' split at d3) <;> (repeat' split) <;> omega
end SW_
