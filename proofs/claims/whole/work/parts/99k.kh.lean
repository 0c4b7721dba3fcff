/-! foreseen, the reference's face -/
def shR (R : Int → Int) (d : Int) : Int → Int := fun j => R (40 * d + j)
def thR (g : Int → Int) (a : Int) : Int → Int := fun j => if g 0 < g (eA a j) then 1 else 0
section KH
variable {X : XS} {h : AH} {Q : Option AV → AH → Prop} {f g hf0 Kp : Int → Int} {dn km ln ik B at_ ft ac mn om fw mo un : Int} {T P PS R Z I : Int → Int} {b : Nat × Nat} {N : Int → Int}
theorem thR_01 {a : Int} : b01 (thR g a) := fun k hk => by unfold thR; split; exact Or.inr rfl; exact Or.inl rfl
-- what agrees on ten places
theorem cnt_ag {u v : Int → Int} (e : ∀ j, 0 ≤ j ∧ j < 10 → u j = v j) : cnt u = cnt v := by
  unfold cnt
  rw [e 0 (by omega), e 1 (by omega), e 2 (by omega), e 3 (by omega), e 4 (by omega), e 5 (by omega), e 6 (by omega), e 7 (by omega), e 8 (by omega), e 9 (by omega)]
theorem amL_ag {u v : Int → Int} (e : ∀ j, 0 ≤ j ∧ j < 10 → u j = v j) : ∀ (m : Nat) (k x : Int), k + m = 10 → 0 ≤ k → amL u N m k x = amL v N m k x := by
  intro m
  induction m with
  | zero => intro k x _ _; rfl
  | succ m ih =>
    intro k x h1 h2
    unfold amL
    rw [e k ⟨h2, by omega⟩, ih (k + 1) x (by omega) (by omega), ih (k + 1) k (by omega) (by omega)]
theorem ud_ag {u v : Int → Int} {k x : Int} (e : ∀ j, 0 ≤ j ∧ j < 10 → u j = v j) : ∀ j, 0 ≤ j ∧ j < 10 → ud u k x j = ud v k x j := fun j hj => by
  unfold ud
  split
  · rfl
  · exact e j hj
theorem evF_ag {room : Int} : ∀ (m : Nat) (u v : Int → Int), (∀ j, 0 ≤ j ∧ j < 10 → u j = v j) → ∀ j, 0 ≤ j ∧ j < 10 → evF N room m u j = evF N room m v j := by
  intro m
  induction m with
  | zero => intro u v e; exact e
  | succ m ih =>
    intro u v e j hj
    unfold evF
    rw [cnt_ag e, amL_ag e 10 0 (-1) (by omega) (by omega)]
    split
    · exact e j hj
    · exact ih _ _ (ud_ag e) j hj
theorem fsL_ag {r : Int → Int} {room : Int} : ∀ (m : Nat) (i n : Int) (u v : Int → Int), (∀ j, 0 ≤ j ∧ j < 10 → u j = v j) → (∀ j, i ≤ j → j < i + m → 0 ≤ r j ∧ r j < 10) → fsL r room m i n u = fsL r room m i n v := by
  intro m
  induction m with
  | zero => intro i n u v _ _; rfl
  | succ m ih =>
    intro i n u v e hk
    have k0 := hk i (by omega) (by omega)
    unfold fsL
    rw [e (r i) k0, ih (i + 1) (n + 1) u v e (fun j a c => hk j (by omega) (by omega)), ih (i + 1) n _ _ (ud_ag (k := r i) (x := 1) (fun j hj => evF_ag (N := fun k => nxL r k (m + 1) i) (room := room) 10 u v e j hj)) (fun j a c => hk j (by omega) (by omega))]
theorem cnt_gap {k : Int} (h : b01 hf0) (hk : 0 ≤ k ∧ k < 10) (h0 : hf0 k = 0) : cnt hf0 ≤ 9 := by
  have e := cnt_set (b := hf0) hk
  have := cnt_b (h.ud (k := k) (x := 1) (Or.inr rfl))
  omega
set_option maxHeartbeats 1000000 in
theorem lp_nx {d i0 k : Int} (m51 : h[51]? = some (oO 7 (mF dn km ln at_ ft ac mn om fw mo un ik))) (m67 : h[67]? = some (oL 160 R)) (m68 : h[68]? = some (oI 4 Z)) (hd : 0 ≤ d ∧ d < 4) (hZ : ∀ j, -1 ≤ Z j ∧ Z j ≤ 40) (hr6 : ∀ j, r64 (R j)) (hk : 0 ≤ k ∧ k < 10) : ∀ (m : Nat) (i : Int) (c : Nat), i + m = Z d → 0 ≤ i → kaL (shR R d) m i = i + c → Q (some (vI (nxL (shR R d) k c i))) h → Wp X kX7_nextOf 3 [some (vR 51), some (vI d), some (vI i0), some (vI k), some (vI i)] [] h b Q := by
  have hRZ : ∀ j, r32 (Z j) := fun j => by have := hZ j; unfold r32; omega
  have zd := hZ d
  intro m
  induction m with
  | zero =>
    intro i c q1 q2 hc hQ
    have e : c = 0 := by unfold kaL at hc; omega
    subst e
    refine wp_iload dX7_nextOf_3 rfl ?_
    refine wp_aload_n dX7_nextOf_5 rfl ?_
    refine wp_getf dX7_nextOf_6 fX7_76 m51 rfl ?_
    refine wp_iload_n dX7_nextOf_9 rfl ?_
    refine wp_iav (v := Z d) dX7_nextOf_10 m68 (by decide) (by omega) rfl ?_
    refine wp_icmp_ge 63 dX7_nextOf_11 rfl (by first | assumption | exact hRZ _ | (unfold r32; omega)) (by first | assumption | exact hRZ _ | (unfold r32; omega)) (fun c11 => ?_) (fun c11 => ?_)
    · refine wp_bipush dX7_nextOf_63 rfl ?_
      exact wp_iret dX7_nextOf_65 rfl hQ
    · exfalso; omega
  | succ m ih =>
    intro i c q1 q2 hc hQ
    have er : shR R d i = R (40 * d + i) := rfl
    have hx6 := hr6 (40 * d + i)
    have kb := kaL_b (shR R d) m (i + 1)
    unfold kaL at hc
    rcases Decidable.em (0 ≤ R (40 * d + i) ∧ R (40 * d + i) < 10) with cc | cc
    · rw [if_pos (by omega), if_pos (by omega)] at hc
      obtain ⟨c, rfl⟩ : ∃ c', c = c' + 1 := ⟨c - 1, by omega⟩
      unfold nxL at hQ
      refine wp_iload dX7_nextOf_3 rfl ?_
      refine wp_aload_n dX7_nextOf_5 rfl ?_
      refine wp_getf dX7_nextOf_6 fX7_76 m51 rfl ?_
      refine wp_iload_n dX7_nextOf_9 rfl ?_
      refine wp_iav (v := Z d) dX7_nextOf_10 m68 (by decide) (by omega) rfl ?_
      refine wp_icmp_ge 63 dX7_nextOf_11 rfl (by first | assumption | exact hRZ _ | (unfold r32; omega)) (by first | assumption | exact hRZ _ | (unfold r32; omega)) (fun c11 => ?_) (fun c11 => ?_)
      · refine wp_bipush dX7_nextOf_63 rfl ?_
        exact wp_iret dX7_nextOf_65 rfl (by first | (exfalso; omega) | (rw [if_pos (by omega)] at hQ; exact hQ))
      · refine wp_aload_n dX7_nextOf_14 rfl ?_
        refine wp_getf dX7_nextOf_15 fX7_73 m51 rfl ?_
        refine wp_bipush dX7_nextOf_18 rfl ?_
        refine wp_iload_n dX7_nextOf_20 rfl ?_
        refine wp_imul dX7_nextOf_21 ?_
        refine wp_iload dX7_nextOf_22 rfl ?_
        refine wp_iadd dX7_nextOf_24 ?_
        refine wp_lav (v := R (40 * d + i)) dX7_nextOf_25 m67 (by decide) (by omega) rfl ?_
        refine wp_lconst (z := 0) dX7_nextOf_26 rfl ?_
        refine wp_ldc2 dX7_nextOf_27 cX7_98 ?_
        refine wp_is3 dX7_nextOf_30 SX7_in lX7_94 (rq0 rfl rfl) (Nat.le_of_ble_eq_true rfl) (C_in (by first | assumption | exact r64_of (hR _) | (unfold r64 r32 at *; omega)) (by first | assumption | exact r64_of (hR _) | (unfold r64 r32 at *; omega)) (by first | assumption | exact r64_of (hR _) | (unfold r64 r32 at *; omega)) ?_)
        dsimp only [pushR]
        refine wp_beq 63 dX7_nextOf_33 rfl (fun c33 => ?_) (fun c33 => ?_)
        · refine wp_bipush dX7_nextOf_63 rfl ?_
          exact wp_iret dX7_nextOf_65 rfl (by first | (exfalso; omega) | (rw [if_pos (by omega)] at hQ; exact hQ))
        · refine wp_aload_n dX7_nextOf_36 rfl ?_
          refine wp_getf dX7_nextOf_37 fX7_73 m51 rfl ?_
          refine wp_bipush dX7_nextOf_40 rfl ?_
          refine wp_iload_n dX7_nextOf_42 rfl ?_
          refine wp_imul dX7_nextOf_43 ?_
          refine wp_iload dX7_nextOf_44 rfl ?_
          refine wp_iadd dX7_nextOf_46 ?_
          refine wp_lav (v := R (40 * d + i)) dX7_nextOf_47 m67 (by decide) (by omega) rfl ?_
          refine wp_iload_n dX7_nextOf_48 rfl ?_
          refine wp_i2l dX7_nextOf_49 (by first | assumption | exact hRZ _ | (unfold r32; omega)) ?_
          refine wp_lc_ne 57 dX7_nextOf_50 dX7_nextOf_51 rfl (by first | exact hr6 _ | (unfold r64; omega)) (by first | exact hr6 _ | (unfold r64; omega)) (fun c51 => ?_) (fun c51 => ?_)
          · refine wp_iinc (L' := [some (vR 51), some (vI d), some (vI i0), some (vI k), some (vI (i + 1))]) dX7_nextOf_57 rfl rfl ?_
            refine wp_goto 3 dX7_nextOf_60 rfl ?_
            rw [if_neg (by omega)] at hQ
            exact ih (i + 1) c (by omega) (by omega) (by omega) hQ
          · refine wp_iload dX7_nextOf_54 rfl ?_
            exact wp_iret dX7_nextOf_56 rfl (by first | (exfalso; omega) | (rw [if_pos (by omega)] at hQ; exact hQ))
    · have e : c = 0 := by (repeat' split at hc) <;> omega
      subst e
      refine wp_iload dX7_nextOf_3 rfl ?_
      refine wp_aload_n dX7_nextOf_5 rfl ?_
      refine wp_getf dX7_nextOf_6 fX7_76 m51 rfl ?_
      refine wp_iload_n dX7_nextOf_9 rfl ?_
      refine wp_iav (v := Z d) dX7_nextOf_10 m68 (by decide) (by omega) rfl ?_
      refine wp_icmp_ge 63 dX7_nextOf_11 rfl (by first | assumption | exact hRZ _ | (unfold r32; omega)) (by first | assumption | exact hRZ _ | (unfold r32; omega)) (fun c11 => ?_) (fun c11 => ?_)
      · refine wp_bipush dX7_nextOf_63 rfl ?_
        exact wp_iret dX7_nextOf_65 rfl (by first | (exfalso; omega) | exact hQ)
      · refine wp_aload_n dX7_nextOf_14 rfl ?_
        refine wp_getf dX7_nextOf_15 fX7_73 m51 rfl ?_
        refine wp_bipush dX7_nextOf_18 rfl ?_
        refine wp_iload_n dX7_nextOf_20 rfl ?_
        refine wp_imul dX7_nextOf_21 ?_
        refine wp_iload dX7_nextOf_22 rfl ?_
        refine wp_iadd dX7_nextOf_24 ?_
        refine wp_lav (v := R (40 * d + i)) dX7_nextOf_25 m67 (by decide) (by omega) rfl ?_
        refine wp_lconst (z := 0) dX7_nextOf_26 rfl ?_
        refine wp_ldc2 dX7_nextOf_27 cX7_98 ?_
        refine wp_is3 dX7_nextOf_30 SX7_in lX7_94 (rq0 rfl rfl) (Nat.le_of_ble_eq_true rfl) (C_in (by first | assumption | exact r64_of (hR _) | (unfold r64 r32 at *; omega)) (by first | assumption | exact r64_of (hR _) | (unfold r64 r32 at *; omega)) (by first | assumption | exact r64_of (hR _) | (unfold r64 r32 at *; omega)) ?_)
        dsimp only [pushR]
        refine wp_beq 63 dX7_nextOf_33 rfl (fun c33 => ?_) (fun c33 => ?_)
        · refine wp_bipush dX7_nextOf_63 rfl ?_
          exact wp_iret dX7_nextOf_65 rfl (by first | (exfalso; omega) | exact hQ)
        · exfalso; omega
theorem C_nextOf {d i k : Int} {m c : Nat} (m51 : h[51]? = some (oO 7 (mF dn km ln at_ ft ac mn om fw mo un ik))) (m67 : h[67]? = some (oL 160 R)) (m68 : h[68]? = some (oI 4 Z)) (hd : 0 ≤ d ∧ d < 4) (hZ : ∀ j, -1 ≤ Z j ∧ Z j ≤ 40) (hr6 : ∀ j, r64 (R j)) (hk : 0 ≤ k ∧ k < 10) (q1 : i + m = Z d) (q2 : 0 ≤ i) (hc : kaL (shR R d) m i = i + c) (hQ : Q (some (vI (nxL (shR R d) k c i))) h) : Cl X kX7_nextOf [vR 51, vI d, vI i, vI k] h Q := by
  refine cl_of rfl (Nat.le_of_ble_eq_true rfl) rfl ?_
  refine wp_iload_n dX7_nextOf_0 rfl ?_
  refine wp_istore (L' := [some (vR 51), some (vI d), some (vI i), some (vI k), some (vI i)]) dX7_nextOf_1 (by decide) rfl ?_
  exact lp_nx m51 m67 m68 hd hZ hr6 hk m i c q1 q2 hc hQ
set_option maxHeartbeats 2000000 in
theorem lp_rm {d a n y4 i y6 : Int} {mm c : Nat} {H : Int → Int} (m51 : h[51]? = some (oO 7 (mF dn km ln at_ ft ac mn om fw mo un ik))) (m67 : h[67]? = some (oL 160 R)) (m68 : h[68]? = some (oI 4 Z)) (hd : 0 ≤ d ∧ d < 4) (hZ : ∀ j, -1 ≤ Z j ∧ Z j ≤ 40) (hr6 : ∀ j, r64 (R j)) (m66 : h[66]? = some (oZ 10 hf0)) (m52 : h[52]? = some (oI 1014 g)) (hH : b01 H) (q1 : i + mm = Z d) (q2 : 0 ≤ i) (hc : kaL (shR R d) mm i = i + c) : ∀ (m : Nat) (k v : Int), k + m = 10 → 0 ≤ k → -1 ≤ v ∧ v < 10 → Wp X kX7_foreseen 216 [some (vR 51), some (vI d), some (vI a), some (vI n), some (vI y4), some (vI i), some (vI y6), some (vI (amL H (fun k => nxL (shR R d) k c i) m k v)), some (vI 10)] [] (h.set 66 (oZ 10 H)) b Q → Wp X kX7_foreseen 162 [some (vR 51), some (vI d), some (vI a), some (vI n), some (vI y4), some (vI i), some (vI y6), some (vI v), some (vI k)] [] (h.set 66 (oZ 10 H)) b Q := by
  have zd := hZ d
  have nr : ∀ k, -100 ≤ nxL (shR R d) k c i ∧ nxL (shR R d) k c i ≤ 100 := fun k => by have kb := kaL_b (shR R d) mm i; have := nx_b (r := shR R d) (k := k) c i (by omega); omega
  intro m
  induction m with
  | zero =>
    intro k v h1 h2 h3 hQ
    have e : k = 10 := by omega
    subst e
    refine wp_iload dX7_foreseen_162 rfl ?_
    refine wp_bipush dX7_foreseen_164 rfl ?_
    refine wp_icmp_ge 216 dX7_foreseen_166 rfl ⟨by omega, by omega⟩ ⟨by omega, by omega⟩ (fun c166 => ?_) (fun c166 => absurd c166 (by omega))
    exact hQ
  | succ m ih =>
    intro k v h1 h2 h3 hQ
    have nk := nr k
    have nv := nr v
    have hk := hH k ⟨h2, by omega⟩
    unfold amL at hQ
    refine wp_iload dX7_foreseen_162 rfl ?_
    refine wp_bipush dX7_foreseen_164 rfl ?_
    refine wp_icmp_ge 216 dX7_foreseen_166 rfl (by first | assumption | (unfold r32; omega)) ⟨by omega, by omega⟩ (fun c166 => ?_) (fun c166 => ?_)
    · exfalso; omega
    · refine wp_aload_n dX7_foreseen_169 rfl ?_
      refine wp_getf dX7_foreseen_170 fX7_70 (gs_ne (by decide) m51) rfl ?_
      refine wp_iload dX7_foreseen_173 rfl ?_
      refine wp_zav (v := H k) dX7_foreseen_175 (gs_eq (gs_lt m66)) (by decide) (by omega) rfl ?_
      refine wp_if_eq 210 dX7_foreseen_176 rfl (by first | assumption | (unfold r32; omega)) (fun c176 => ?_) (fun c176 => ?_)
      · refine wp_iinc (L' := [some (vR 51), some (vI d), some (vI a), some (vI n), some (vI y4), some (vI i), some (vI y6), some (vI v), some (vI (k + 1))]) dX7_foreseen_210 rfl rfl ?_
        refine wp_goto 162 dX7_foreseen_213 rfl ?_
        (repeat' split at hQ) <;> first | (exfalso; omega) | exact ih (k + 1) v (by omega) (by omega) (by omega) hQ
      · refine wp_iload dX7_foreseen_179 rfl ?_
        refine wp_iconst dX7_foreseen_181 ?_
        refine wp_icmp_eq 206 dX7_foreseen_182 rfl (by first | assumption | (unfold r32; omega)) ⟨by omega, by omega⟩ (fun c182 => ?_) (fun c182 => ?_)
        · refine wp_iload dX7_foreseen_206 rfl ?_
          refine wp_istore (L' := [some (vR 51), some (vI d), some (vI a), some (vI n), some (vI y4), some (vI i), some (vI y6), some (vI k), some (vI k)]) dX7_foreseen_208 (by decide) rfl ?_
          refine wp_iinc (L' := [some (vR 51), some (vI d), some (vI a), some (vI n), some (vI y4), some (vI i), some (vI y6), some (vI k), some (vI (k + 1))]) dX7_foreseen_210 rfl rfl ?_
          refine wp_goto 162 dX7_foreseen_213 rfl ?_
          (repeat' split at hQ) <;> first | (exfalso; omega) | exact ih (k + 1) k (by omega) (by omega) (by omega) hQ
        · refine wp_aload_n dX7_foreseen_185 rfl ?_
          refine wp_iload_n dX7_foreseen_186 rfl ?_
          refine wp_iload dX7_foreseen_187 rfl ?_
          refine wp_iload dX7_foreseen_189 rfl ?_
          refine wp_iv3 dX7_foreseen_191 VX7_nextOf lX7_332 (gs_ne (by decide) m51) (rq0 rfl rfl) (Nat.le_of_ble_eq_true rfl) (C_nextOf (m := mm) (c := c) (gs_ne (by decide) m51) (gs_ne (by decide) m67) (gs_ne (by decide) m68) hd hZ hr6 (by omega) q1 q2 hc ?_)
          dsimp only [pushR]
          refine wp_aload_n dX7_foreseen_194 rfl ?_
          refine wp_iload_n dX7_foreseen_195 rfl ?_
          refine wp_iload dX7_foreseen_196 rfl ?_
          refine wp_iload dX7_foreseen_198 rfl ?_
          refine wp_iv3 dX7_foreseen_200 VX7_nextOf lX7_332 (gs_ne (by decide) m51) (rq0 rfl rfl) (Nat.le_of_ble_eq_true rfl) (C_nextOf (m := mm) (c := c) (gs_ne (by decide) m51) (gs_ne (by decide) m67) (gs_ne (by decide) m68) hd hZ hr6 (by omega) q1 q2 hc ?_)
          dsimp only [pushR]
          refine wp_icmp_le 210 dX7_foreseen_203 rfl (by first | assumption | (unfold r32; omega)) (by first | assumption | (unfold r32; omega)) (fun c203 => ?_) (fun c203 => ?_)
          · refine wp_iinc (L' := [some (vR 51), some (vI d), some (vI a), some (vI n), some (vI y4), some (vI i), some (vI y6), some (vI v), some (vI (k + 1))]) dX7_foreseen_210 rfl rfl ?_
            refine wp_goto 162 dX7_foreseen_213 rfl ?_
            (repeat' split at hQ) <;> first | (exfalso; omega) | exact ih (k + 1) v (by omega) (by omega) (by omega) hQ
          · refine wp_iload dX7_foreseen_206 rfl ?_
            refine wp_istore (L' := [some (vR 51), some (vI d), some (vI a), some (vI n), some (vI y4), some (vI i), some (vI y6), some (vI k), some (vI k)]) dX7_foreseen_208 (by decide) rfl ?_
            refine wp_iinc (L' := [some (vR 51), some (vI d), some (vI a), some (vI n), some (vI y4), some (vI i), some (vI y6), some (vI k), some (vI (k + 1))]) dX7_foreseen_210 rfl rfl ?_
            refine wp_goto 162 dX7_foreseen_213 rfl ?_
            (repeat' split at hQ) <;> first | (exfalso; omega) | exact ih (k + 1) k (by omega) (by omega) (by omega) hQ
theorem evF_0 {room k : Int} : ∀ (m : Nat) (u : Int → Int), b01 u → u k = 0 → 0 ≤ k ∧ k < 10 → evF N room m u k = 0 := by
  intro m
  induction m with
  | zero => intro u _ h _; exact h
  | succ m ih =>
    intro u hu h hk
    unfold evF
    split
    · exact h
    · refine ih _ (hu.ud (Or.inl rfl)) ?_ hk
      unfold ud
      split
      · rfl
      · exact h
set_option maxHeartbeats 2000000 in
theorem lp_rv {d a y4 i y6 : Int} {mm c : Nat} (m51 : h[51]? = some (oO 7 (mF dn km ln at_ ft ac mn om fw mo un ik))) (m67 : h[67]? = some (oL 160 R)) (m68 : h[68]? = some (oI 4 Z)) (hd : 0 ≤ d ∧ d < 4) (hZ : ∀ j, -1 ≤ Z j ∧ Z j ≤ 40) (hr6 : ∀ j, r64 (R j)) (m66 : h[66]? = some (oZ 10 hf0)) (m52 : h[52]? = some (oI 1014 g)) (q1 : i + mm = Z d) (q2 : 0 ≤ i) (hc : kaL (shR R d) mm i = i + c) (hg3 : 1 ≤ g 3 ∧ g 3 ≤ 100) : ∀ (m : Nat) (H : Int → Int) (y7 y8 : Option AV), b01 H → cnt H ≤ m → (∀ y7 y8, Wp X kX7_foreseen 230 [some (vR 51), some (vI d), some (vI a), some (vI (cnt (evF (fun k => nxL (shR R d) k c i) (g 3) m H))), some (vI y4), some (vI i), some (vI y6), y7, y8] [] (h.set 66 (oZ 10 (evF (fun k => nxL (shR R d) k c i) (g 3) m H))) b Q) → Wp X kX7_foreseen 146 [some (vR 51), some (vI d), some (vI a), some (vI (cnt H)), some (vI y4), some (vI i), some (vI y6), y7, y8] [] (h.set 66 (oZ 10 H)) b Q := by
  intro m
  induction m with
  | zero =>
    intro H y7 y8 hH hm hQ
    have cb := cnt_b hH
    refine wp_iload_n dX7_foreseen_146 rfl ?_
    refine wp_aload_n dX7_foreseen_147 rfl ?_
    refine wp_getf dX7_foreseen_148 fX7_9 (gs_ne (by decide) m51) rfl ?_
    refine wp_iconst dX7_foreseen_151 ?_
    refine wp_iav (v := g 3) dX7_foreseen_152 (gs_ne (by decide) m52) (by decide) (by omega) rfl ?_
    refine wp_icmp_lt 230 dX7_foreseen_153 rfl (by first | assumption | (unfold r32; omega)) (by first | assumption | (unfold r32; omega)) (fun c153 => ?_) (fun c153 => ?_)
    · exact hQ _ _
    · exfalso; omega
  | succ m ih =>
    intro H y7 y8 hH hm hQ
    have cb := cnt_b hH
    unfold evF at hQ
    refine wp_iload_n dX7_foreseen_146 rfl ?_
    refine wp_aload_n dX7_foreseen_147 rfl ?_
    refine wp_getf dX7_foreseen_148 fX7_9 (gs_ne (by decide) m51) rfl ?_
    refine wp_iconst dX7_foreseen_151 ?_
    refine wp_iav (v := g 3) dX7_foreseen_152 (gs_ne (by decide) m52) (by decide) (by omega) rfl ?_
    refine wp_icmp_lt 230 dX7_foreseen_153 rfl (by first | assumption | (unfold r32; omega)) (by first | assumption | (unfold r32; omega)) (fun c153 => ?_) (fun c153 => ?_)
    · rw [if_pos (by omega)] at hQ
      exact hQ _ _
    · refine wp_iconst dX7_foreseen_156 ?_
      refine wp_istore (L' := [some (vR 51), some (vI d), some (vI a), some (vI (cnt H)), some (vI y4), some (vI i), some (vI y6), some (vI (-1)), y8]) dX7_foreseen_157 (by decide) rfl ?_
      refine wp_iconst dX7_foreseen_159 ?_
      refine wp_istore (L' := [some (vR 51), some (vI d), some (vI a), some (vI (cnt H)), some (vI y4), some (vI i), some (vI y6), some (vI (-1)), some (vI 0)]) dX7_foreseen_160 (by decide) rfl ?_
      have w2 := amL_am (N := (fun k => nxL (shR R d) k c i)) hH (by omega)
      rw [if_neg (by omega)] at hQ
      refine lp_rm m51 m67 m68 hd hZ hr6 m66 m52 hH q1 q2 hc 10 0 (-1) (by omega) (by omega) (by omega) ?_
      have k0 := w2.1
      have ec := cnt_clr (b := H) k0
      have b1 := w2.2.1
      generalize amL H (fun k => nxL (shR R d) k c i) 10 0 (-1) = am at *
      refine wp_aload_n dX7_foreseen_216 rfl ?_
      refine wp_getf dX7_foreseen_217 fX7_70 (gs_ne (by decide) m51) rfl ?_
      refine wp_iload dX7_foreseen_220 rfl ?_
      refine wp_iconst dX7_foreseen_222 ?_
      refine wp_zsv dX7_foreseen_223 (gs_eq (gs_lt m66)) (by decide) (by omega) (Or.inl rfl) ?_
      refine wp_iinc (L' := [some (vR 51), some (vI d), some (vI a), some (vI (cnt H + (-1))), some (vI y4), some (vI i), some (vI y6), some (vI am), some (vI 10)]) dX7_foreseen_224 rfl rfl ?_
      refine wp_goto 146 dX7_foreseen_227 rfl ?_
      rw [List.set_set]
      have e9 : cnt H + -1 = cnt (ud H am 0) := by omega
      rw [e9]
      exact ih (ud H am 0) _ _ (hH.ud (Or.inl rfl)) (by omega) hQ
set_option maxHeartbeats 2000000 in
theorem lp_rf {d a : Int} (m51 : h[51]? = some (oO 7 (mF dn km ln at_ ft ac mn om fw mo un ik))) (m67 : h[67]? = some (oL 160 R)) (m68 : h[68]? = some (oI 4 Z)) (hd : 0 ≤ d ∧ d < 4) (hZ : ∀ j, -1 ≤ Z j ∧ Z j ≤ 40) (hr6 : ∀ j, r64 (R j)) (m66 : h[66]? = some (oZ 10 hf0)) (m52 : h[52]? = some (oI 1014 g)) (hg : ∀ j, r32 (g j)) (hg3 : 1 ≤ g 3 ∧ g 3 ≤ 100) : ∀ (m : Nat) (i n : Int) (H : Int → Int) (c : Nat) (y6 y7 y8 : Option AV), i + m = Z d → 0 ≤ i → 0 ≤ n ∧ n ≤ i → b01 H → kaL (shR R d) m i = i + c → (∀ H', Q (some (vI (fsL (shR R d) (g 3) c i n H))) (h.set 66 (oZ 10 H'))) → Wp X kX7_foreseen 82 [some (vR 51), some (vI d), some (vI a), some (vI (cnt H)), some (vI n), some (vI i), y6, y7, y8] [] (h.set 66 (oZ 10 H)) b Q := by
  have hRZ : ∀ j, r32 (Z j) := fun j => by have := hZ j; unfold r32; omega
  have zd := hZ d
  intro m
  induction m with
  | zero =>
    intro i n H c y6 y7 y8 q1 q2 q3 hH hc hQ
    have e : c = 0 := by unfold kaL at hc; omega
    subst e
    refine wp_iload dX7_foreseen_82 rfl ?_
    refine wp_aload_n dX7_foreseen_84 rfl ?_
    refine wp_getf dX7_foreseen_85 fX7_76 (gs_ne (by decide) m51) rfl ?_
    refine wp_iload_n dX7_foreseen_88 rfl ?_
    refine wp_iav (v := Z d) dX7_foreseen_89 (gs_ne (by decide) m68) (by decide) (by omega) rfl ?_
    refine wp_icmp_ge 247 dX7_foreseen_90 rfl (by first | assumption | exact hRZ _ | (unfold r32; omega)) (by first | assumption | exact hRZ _ | (unfold r32; omega)) (fun c90 => ?_) (fun c90 => ?_)
    · refine wp_iload dX7_foreseen_247 rfl ?_
      exact wp_iret dX7_foreseen_249 rfl (hQ _)
    · exfalso; omega
  | succ m ih =>
    intro i n H c y6 y7 y8 q1 q2 q3 hH hc hQ
    have er : shR R d i = R (40 * d + i) := rfl
    have hx6 := hr6 (40 * d + i)
    have kb := kaL_b (shR R d) m (i + 1)
    have hc0 := hc
    unfold kaL at hc
    rcases Decidable.em (0 ≤ R (40 * d + i) ∧ R (40 * d + i) < 10) with cc | cc
    · rw [if_pos (by omega), if_pos (by omega)] at hc
      obtain ⟨c, rfl⟩ : ∃ c', c = c' + 1 := ⟨c - 1, by omega⟩
      have hk := hH (R (40 * d + i)) cc
      unfold fsL at hQ
      rw [er] at hQ
      refine wp_iload dX7_foreseen_82 rfl ?_
      refine wp_aload_n dX7_foreseen_84 rfl ?_
      refine wp_getf dX7_foreseen_85 fX7_76 (gs_ne (by decide) m51) rfl ?_
      refine wp_iload_n dX7_foreseen_88 rfl ?_
      refine wp_iav (v := Z d) dX7_foreseen_89 (gs_ne (by decide) m68) (by decide) (by omega) rfl ?_
      refine wp_icmp_ge 247 dX7_foreseen_90 rfl (by first | assumption | exact hRZ _ | (unfold r32; omega)) (by first | assumption | exact hRZ _ | (unfold r32; omega)) (fun c90 => ?_) (fun c90 => ?_)
      · refine wp_iload dX7_foreseen_247 rfl ?_
        exact wp_iret dX7_foreseen_249 rfl (False.elim (by omega))
      · refine wp_aload_n dX7_foreseen_93 rfl ?_
        refine wp_getf dX7_foreseen_94 fX7_73 (gs_ne (by decide) m51) rfl ?_
        refine wp_bipush dX7_foreseen_97 rfl ?_
        refine wp_iload_n dX7_foreseen_99 rfl ?_
        refine wp_imul dX7_foreseen_100 ?_
        refine wp_iload dX7_foreseen_101 rfl ?_
        refine wp_iadd dX7_foreseen_103 ?_
        refine wp_lav (v := R (40 * d + i)) dX7_foreseen_104 (gs_ne (by decide) m67) (by decide) (by omega) rfl ?_
        refine wp_lconst (z := 0) dX7_foreseen_105 rfl ?_
        refine wp_ldc2 dX7_foreseen_106 cX7_98 ?_
        refine wp_is3 dX7_foreseen_109 SX7_in lX7_94 (rq0 rfl rfl) (Nat.le_of_ble_eq_true rfl) (C_in (by first | assumption | exact r64_of (hR _) | (unfold r64 r32 at *; omega)) (by first | assumption | exact r64_of (hR _) | (unfold r64 r32 at *; omega)) (by first | assumption | exact r64_of (hR _) | (unfold r64 r32 at *; omega)) ?_)
        dsimp only [pushR]
        refine wp_beq 247 dX7_foreseen_112 rfl (fun c112 => ?_) (fun c112 => ?_)
        · refine wp_iload dX7_foreseen_247 rfl ?_
          exact wp_iret dX7_foreseen_249 rfl (False.elim (by omega))
        · refine wp_aload_n dX7_foreseen_115 rfl ?_
          refine wp_getf dX7_foreseen_116 fX7_73 (gs_ne (by decide) m51) rfl ?_
          refine wp_bipush dX7_foreseen_119 rfl ?_
          refine wp_iload_n dX7_foreseen_121 rfl ?_
          refine wp_imul dX7_foreseen_122 ?_
          refine wp_iload dX7_foreseen_123 rfl ?_
          refine wp_iadd dX7_foreseen_125 ?_
          refine wp_lav (v := R (40 * d + i)) dX7_foreseen_126 (gs_ne (by decide) m67) (by decide) (by omega) rfl ?_
          refine wp_l2i dX7_foreseen_127 ?_
          refine wp_istore (L' := [some (vR 51), some (vI d), some (vI a), some (vI (cnt H)), some (vI n), some (vI i), some (vI (R (40 * d + i))), y7, y8]) dX7_foreseen_128 (by decide) rfl ?_
          refine wp_aload_n dX7_foreseen_130 rfl ?_
          refine wp_getf dX7_foreseen_131 fX7_70 (gs_ne (by decide) m51) rfl ?_
          refine wp_iload dX7_foreseen_134 rfl ?_
          refine wp_zav (v := H (R (40 * d + i))) dX7_foreseen_136 (gs_eq (gs_lt m66)) (by decide) (by omega) rfl ?_
          refine wp_if_eq 146 dX7_foreseen_137 rfl (by first | assumption | exact hRZ _ | (unfold r32; omega)) (fun c137 => ?_) (fun c137 => ?_)
          · rw [if_neg (by omega)] at hQ
            have cb := cnt_b hH
            have he := evF_01 (N := (fun k => nxL (shR R d) k (c + 1) i)) (room := g 3) 10 H hH
            refine lp_rv (mm := m + 1) (c := c + 1) m51 m67 m68 hd hZ hr6 m66 m52 q1 q2 hc0 hg3 10 H _ _ hH (by omega) (fun y7 y8 => ?_)
            have hz0 : evF (fun k => nxL (shR R d) k (c + 1) i) (g 3) 10 H (R (40 * d + i)) = 0 := evF_0 10 H hH (by omega) cc
            have es := cnt_set (b := evF (fun k => nxL (shR R d) k (c + 1) i) (g 3) 10 H) cc
            generalize evF (fun k => nxL (shR R d) k (c + 1) i) (g 3) 10 H = E at *
            refine wp_aload_n dX7_foreseen_230 rfl ?_
            refine wp_getf dX7_foreseen_231 fX7_70 (gs_ne (by decide) m51) rfl ?_
            refine wp_iload dX7_foreseen_234 rfl ?_
            refine wp_iconst dX7_foreseen_236 ?_
            refine wp_zsv dX7_foreseen_237 (gs_eq (gs_lt m66)) (by decide) (by omega) (Or.inr rfl) ?_
            refine wp_iinc (L' := [some (vR 51), some (vI d), some (vI a), some (vI (cnt E + 1)), some (vI n), some (vI i), some (vI (R (40 * d + i))), y7, y8]) dX7_foreseen_238 rfl rfl ?_
            refine wp_iinc (L' := [some (vR 51), some (vI d), some (vI a), some (vI (cnt E + 1)), some (vI n), some (vI (i + 1)), some (vI (R (40 * d + i))), y7, y8]) dX7_foreseen_241 rfl rfl ?_
            refine wp_goto 82 dX7_foreseen_244 rfl ?_
            rw [List.set_set]
            have e9 : cnt E + 1 = cnt (ud E (R (40 * d + i)) 1) := by omega
            rw [e9]
            exact ih (i + 1) n _ c _ _ _ (by omega) (by omega) (by omega) (he.ud (Or.inr rfl)) (by omega) hQ
          · refine wp_iinc (L' := [some (vR 51), some (vI d), some (vI a), some (vI (cnt H)), some (vI (n + 1)), some (vI i), some (vI (R (40 * d + i))), y7, y8]) dX7_foreseen_140 rfl rfl ?_
            refine wp_goto 241 dX7_foreseen_143 rfl ?_
            refine wp_iinc (L' := [some (vR 51), some (vI d), some (vI a), some (vI (cnt H)), some (vI (n + 1)), some (vI (i + 1)), some (vI (R (40 * d + i))), y7, y8]) dX7_foreseen_241 rfl rfl ?_
            refine wp_goto 82 dX7_foreseen_244 rfl ?_
            rw [if_pos (by omega)] at hQ
            exact ih (i + 1) (n + 1) H c _ _ _ (by omega) (by omega) (by omega) hH (by omega) hQ
    · have e : c = 0 := by (repeat' split at hc) <;> omega
      subst e
      refine wp_iload dX7_foreseen_82 rfl ?_
      refine wp_aload_n dX7_foreseen_84 rfl ?_
      refine wp_getf dX7_foreseen_85 fX7_76 (gs_ne (by decide) m51) rfl ?_
      refine wp_iload_n dX7_foreseen_88 rfl ?_
      refine wp_iav (v := Z d) dX7_foreseen_89 (gs_ne (by decide) m68) (by decide) (by omega) rfl ?_
      refine wp_icmp_ge 247 dX7_foreseen_90 rfl (by first | assumption | exact hRZ _ | (unfold r32; omega)) (by first | assumption | exact hRZ _ | (unfold r32; omega)) (fun c90 => ?_) (fun c90 => ?_)
      · refine wp_iload dX7_foreseen_247 rfl ?_
        exact wp_iret dX7_foreseen_249 rfl (hQ _)
      · refine wp_aload_n dX7_foreseen_93 rfl ?_
        refine wp_getf dX7_foreseen_94 fX7_73 (gs_ne (by decide) m51) rfl ?_
        refine wp_bipush dX7_foreseen_97 rfl ?_
        refine wp_iload_n dX7_foreseen_99 rfl ?_
        refine wp_imul dX7_foreseen_100 ?_
        refine wp_iload dX7_foreseen_101 rfl ?_
        refine wp_iadd dX7_foreseen_103 ?_
        refine wp_lav (v := R (40 * d + i)) dX7_foreseen_104 (gs_ne (by decide) m67) (by decide) (by omega) rfl ?_
        refine wp_lconst (z := 0) dX7_foreseen_105 rfl ?_
        refine wp_ldc2 dX7_foreseen_106 cX7_98 ?_
        refine wp_is3 dX7_foreseen_109 SX7_in lX7_94 (rq0 rfl rfl) (Nat.le_of_ble_eq_true rfl) (C_in (by first | assumption | exact r64_of (hR _) | (unfold r64 r32 at *; omega)) (by first | assumption | exact r64_of (hR _) | (unfold r64 r32 at *; omega)) (by first | assumption | exact r64_of (hR _) | (unfold r64 r32 at *; omega)) ?_)
        dsimp only [pushR]
        refine wp_beq 247 dX7_foreseen_112 rfl (fun c112 => ?_) (fun c112 => ?_)
        · refine wp_iload dX7_foreseen_247 rfl ?_
          exact wp_iret dX7_foreseen_249 rfl (hQ _)
        · exfalso; omega
theorem hd_st {H : Int → Int} {a k : Int} (hk : 0 ≤ k) (hH : ∀ j, 0 ≤ j → j < k → H j = thR g a j) : ∀ j, 0 ≤ j → j < k + 1 → ud H k (bI (g 0 < g (eA a k))) j = thR g a j := fun j q1 q2 => by
  rcases Decidable.em (j = k) with e | e
  · rw [e, ud_eq]; unfold bI thR; rfl
  · rw [ud_ne e]; exact hH j q1 (by omega)
def thN (g : Int → Int) (a : Int) : Nat → Int → Int → Int
  | 0, _, n => n
  | m + 1, k, n => thN g a m (k + 1) (n + thR g a k)
set_option maxHeartbeats 2000000 in
theorem lp_hd {d a : Int} {y5 y6 y7 y8 : Option AV} (m51 : h[51]? = some (oO 7 (mF dn km ln at_ ft ac mn om fw mo un ik))) (m66 : h[66]? = some (oZ 10 hf0)) (m52 : h[52]? = some (oI 1014 g)) (hI : IM B g) (hBB : B ≤ 8000000) (ha : 0 ≤ a ∧ a < 6) : ∀ (m : Nat) (k n : Int) (H : Int → Int), k + m = 10 → 0 ≤ k → 0 ≤ n ∧ n ≤ k → (∀ j, 0 ≤ j → j < k → H j = thR g a j) → (∀ H', (∀ j, 0 ≤ j → j < 10 → H' j = thR g a j) → Wp X kX7_foreseen 76 [some (vR 51), some (vI d), some (vI a), some (vI (thN g a m k n)), some (vI 10), y5, y6, y7, y8] [] (h.set 66 (oZ 10 H')) b Q) → Wp X kX7_foreseen 28 [some (vR 51), some (vI d), some (vI a), some (vI n), some (vI k), y5, y6, y7, y8] [] (h.set 66 (oZ 10 H)) b Q := by
  have hR := hI.r (by omega)
  intro m
  induction m with
  | zero =>
    intro k n H q1 q2 q3 hH hQ
    have e : k = 10 := by omega
    subst e
    refine wp_iload dX7_foreseen_28 rfl ?_
    refine wp_bipush dX7_foreseen_30 rfl ?_
    refine wp_icmp_ge 76 dX7_foreseen_32 rfl ⟨by omega, by omega⟩ ⟨by omega, by omega⟩ (fun c32 => ?_) (fun c32 => absurd c32 (by omega))
    exact hQ _ hH
  | succ m ih =>
    intro k n H q1 q2 q3 hH hQ
    have pe := eA_b ha (show 0 ≤ k ∧ k < 10 by omega)
    have hn := hd_st (g := g) (a := a) q2 hH
    have t01 := thR_01 (g := g) (a := a) k (by omega)
    have et : thR g a k = bI (g 0 < g (eA a k)) := rfl
    unfold thN at hQ
    refine wp_iload dX7_foreseen_28 rfl ?_
    refine wp_bipush dX7_foreseen_30 rfl ?_
    refine wp_icmp_ge 76 dX7_foreseen_32 rfl (by first | assumption | exact hR _ | exact bI_r _ | (unfold r32; omega)) ⟨by omega, by omega⟩ (fun c32 => ?_) (fun c32 => ?_)
    · exfalso; omega
    · refine wp_aload_n dX7_foreseen_35 rfl ?_
      refine wp_getf dX7_foreseen_36 fX7_70 (gs_ne (by decide) m51) rfl ?_
      refine wp_iload dX7_foreseen_39 rfl ?_
      refine wp_aload_n dX7_foreseen_41 rfl ?_
      refine wp_iload_n dX7_foreseen_42 rfl ?_
      refine wp_iload dX7_foreseen_43 rfl ?_
      refine wp_is2 dX7_foreseen_45 SX7_entryAt lX7_112 (rq0 rfl rfl) (Nat.le_of_ble_eq_true rfl) (C_entryAt ?_)
      dsimp only [pushR]
      refine wp_iv1 dX7_foreseen_48 VX7_isThere lX7_115 (gs_ne (by decide) m51) (rq0 rfl rfl) (Nat.le_of_ble_eq_true rfl) (sa_of (gs_ne (by decide) m52) (C_isThere (sa_mk (by decide) (gs_ne (by decide) m51) rfl (gs_ne (by decide) m52)) (by omega) rfl rfl (hR _) (hR _) ?_))
      dsimp only [pushR]
      rw [set_same (gs_ne (by decide) m52)]
      refine wp_zsv dX7_foreseen_51 (gs_eq (gs_lt m66)) (by decide) (by omega) (bI_01 _) ?_
      refine wp_iload_n dX7_foreseen_52 rfl ?_
      refine wp_aload_n dX7_foreseen_53 rfl ?_
      refine wp_getf dX7_foreseen_54 fX7_70 (gs_ne (by decide) (gs_ne (by decide) m51)) rfl ?_
      refine wp_iload dX7_foreseen_57 rfl ?_
      refine wp_zav (v := bI (g 0 < g (eA a k))) dX7_foreseen_59 (gs_eq (gs_l (gs_lt m66))) (by decide) (by omega) (by rw [ud_eq] <;> rfl) ?_
      refine wp_if_eq 67 dX7_foreseen_60 rfl (by first | assumption | exact hR _ | exact bI_r _ | (unfold r32; omega)) (fun c60 => ?_) (fun c60 => ?_)
      · refine wp_iconst dX7_foreseen_67 ?_
        refine wp_iadd dX7_foreseen_68 ?_
        refine wp_istore_n (L' := [some (vR 51), some (vI d), some (vI a), some (vI (n + 0)), some (vI k), y5, y6, y7, y8]) dX7_foreseen_69 (by decide) rfl ?_
        refine wp_iinc (L' := [some (vR 51), some (vI d), some (vI a), some (vI (n + 0)), some (vI (k + 1)), y5, y6, y7, y8]) dX7_foreseen_70 rfl rfl ?_
        refine wp_goto 28 dX7_foreseen_73 rfl ?_
        rw [List.set_set]
        have e1 : thR g a k = 0 := by omega
        rw [e1] at hQ
        exact ih (k + 1) _ _ (by omega) (by omega) (by omega) hn hQ
      · refine wp_iconst dX7_foreseen_63 ?_
        refine wp_goto 68 dX7_foreseen_64 rfl ?_
        refine wp_iadd dX7_foreseen_68 ?_
        refine wp_istore_n (L' := [some (vR 51), some (vI d), some (vI a), some (vI (n + 1)), some (vI k), y5, y6, y7, y8]) dX7_foreseen_69 (by decide) rfl ?_
        refine wp_iinc (L' := [some (vR 51), some (vI d), some (vI a), some (vI (n + 1)), some (vI (k + 1)), y5, y6, y7, y8]) dX7_foreseen_70 rfl rfl ?_
        refine wp_goto 28 dX7_foreseen_73 rfl ?_
        rw [List.set_set]
        have e1 : thR g a k = 1 := by omega
        rw [e1] at hQ
        exact ih (k + 1) _ _ (by omega) (by omega) (by omega) hn hQ
end KH
