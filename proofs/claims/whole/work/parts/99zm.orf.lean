/-! orders and witness, the reference; alike -/
section OF_
variable {X : XS} {h : AH} {Q : Option AV → AH → Prop} {K Fs S : Int → Int → Int} {sz P PS o0 o ws0 fs0 fv0 fv fv' cl f g fr Kp T R Z I : Int → Int} {n B x key i k dn km ln ik at_ ft mn om fw mo un : Int} {b : Nat × Nat}
theorem MV.or {h' : AH} {a1 a2 a3 a4 a5 a6 a7 a8 : Int} (hM : MV h g Kp dn km T ln P PS R Z I ik) (h51 : h'[51]? = some (oO 7 (mF dn km ln a1 a2 a3 a4 a5 a6 a7 a8 ik))) (h52 : h'[52]? = some (oI 1014 g)) (h59 : ∃ f, h'[59]? = some (oI 1014 f)) (h60 : ∃ f, h'[60]? = some (oI 8 f)) (h61 : ∃ f, h'[61]? = some (oI 8 f)) (h62 : ∃ f, h'[62]? = some (oI 6 f)) (h63 : ∃ f, h'[63]? = some (oZ 1000 f)) (fr : ∀ i, i ≠ 51 → i ≠ 52 → i ≠ 59 → (i < 60 ∨ 64 ≤ i) → h'[i]? = h[i]?) : MV h' g Kp dn km T ln P PS R Z I ik := by
  obtain ⟨⟨b1, b2, b3, b4, b5, b6, b7, b8, q0⟩, q1, q2, q3, ⟨f5, q4⟩, q5, q6, ⟨f7, q7⟩, ⟨f8, q8⟩, ⟨f9, q9⟩, ⟨f10, q10⟩, ⟨f11, q11⟩, ⟨f12, q12⟩, ⟨f13, q13⟩, ⟨f14, q14⟩, q15, q16, q17, ⟨f18, q18, q19⟩⟩ := hM
  have e : ∀ i, i ≠ 51 → i ≠ 52 → i ≠ 59 → (i < 60 ∨ 64 ≤ i) → ∀ {x}, h[i]? = x → h'[i]? = x := fun i a b c d x hx => (fr i a b c d).trans hx
  exact ⟨⟨_, _, _, _, _, _, _, _, h51⟩, h52, e 53 (by decide) (by decide) (by decide) (by decide) q2, e 54 (by decide) (by decide) (by decide) (by decide) q3, ⟨f5, e 55 (by decide) (by decide) (by decide) (by decide) q4⟩, e 56 (by decide) (by decide) (by decide) (by decide) q5, e 57 (by decide) (by decide) (by decide) (by decide) q6, h59, h60, h61, h62, h63, ⟨f12, e 64 (by decide) (by decide) (by decide) (by decide) q12⟩, ⟨f13, e 65 (by decide) (by decide) (by decide) (by decide) q13⟩, ⟨f14, e 66 (by decide) (by decide) (by decide) (by decide) q14⟩, e 67 (by decide) (by decide) (by decide) (by decide) q15, e 68 (by decide) (by decide) (by decide) (by decide) q16, e 69 (by decide) (by decide) (by decide) (by decide) q17, ⟨f18, e 58 (by decide) (by decide) (by decide) (by decide) q18, q19⟩⟩
set_option maxHeartbeats 1000000 in
theorem lp_f0 {y4 y5 : Option AV} (m51 : h[51]? = some (oO 7 (mF dn km ln at_ ft n mn om fw mo un ik))) (m63 : h[63]? = some (oZ 1000 fv0)) : ∀ (mm : Nat) (q : Int) (fv : Int → Int), q + mm = 1000 → 0 ≤ q → (∀ j, fv j = if 0 ≤ j ∧ j < q then 0 else fv0 j) → Wp X kX7_goesThrough 38 [some (vR 51), some (vI x), some (vI key), some (vI 1000), y4, y5] [] (h.set 63 (oZ 1000 (flI fv0 0 1000))) b Q → Wp X kX7_goesThrough 18 [some (vR 51), some (vI x), some (vI key), some (vI q), y4, y5] [] (h.set 63 (oZ 1000 fv)) b Q := by
  intro mm
  induction mm with
  | zero =>
    intro q fv q1 q2 hf hQ
    have e : q = 1000 := by omega
    subst e
    have ef : fv = flI fv0 0 1000 := funext hf
    subst ef
    refine wp_iload_n dX7_goesThrough_18 rfl ?_
    refine wp_sipush dX7_goesThrough_19 rfl ?_
    refine wp_icmp_ge 38 dX7_goesThrough_22 rfl ⟨by omega, by omega⟩ ⟨by omega, by omega⟩ (fun c22 => ?_) (fun c22 => absurd c22 (by omega))
    exact hQ
  | succ mm ih =>
    intro q fv q1 q2 hf hQ
    refine wp_iload_n dX7_goesThrough_18 rfl ?_
    refine wp_sipush dX7_goesThrough_19 rfl ?_
    refine wp_icmp_ge 38 dX7_goesThrough_22 rfl (by first | assumption | (unfold r32; omega)) ⟨by omega, by omega⟩ (fun c22 => ?_) (fun c22 => ?_)
    · exfalso; omega
    · refine wp_aload_n dX7_goesThrough_25 rfl ?_
      refine wp_getf dX7_goesThrough_26 fX7_60 (gs_ne (by decide) m51) rfl ?_
      refine wp_iload_n dX7_goesThrough_29 rfl ?_
      refine wp_iconst dX7_goesThrough_30 ?_
      refine wp_zsv dX7_goesThrough_31 (gs_eq (gs_lt m63)) (by decide) (by omega) (Or.inl rfl) ?_
      refine wp_iinc (L' := [some (vR 51), some (vI x), some (vI key), some (vI (q + 1)), y4, y5]) dX7_goesThrough_32 rfl rfl ?_
      refine wp_goto 18 dX7_goesThrough_35 rfl ?_
      rw [List.set_set]
      exact ih (q + 1) _ (by omega) (by omega) (fun j => by unfold ud; have := hf j; (repeat' split) <;> (repeat' split at this) <;> omega) hQ
theorem ord_s0 {ob : (Int → Int) → Int × Int × Int} : ∀ (kk : Nat) (o : Int → Int) (t s l m un : Int) (fs fv : Int → Int), 0 ≤ s → 0 ≤ (ordL ob n kk o t s l m un fs fv).2.1 := by
  intro kk
  induction kk with
  | zero => intro o t s l m un fs fv h; exact h
  | succ kk ih =>
    intro o t s l m un fs fv h
    unfold ordL
    split
    · dsimp only; split <;> omega
    · exact ih _ _ _ _ _ _ _ _ (by split <;> omega)
set_option maxHeartbeats 4000000 in
theorem C_goesThrough (hM : MV h g Kp dn km T ln P PS R Z I ik) (m51 : h[51]? = some (oO 7 (mF dn km ln at_ ft n mn om fw mo un ik))) (m60 : h[60]? = some (oI 8 o0)) (m61 : h[61]? = some (oI 8 ws0)) (m63 : h[63]? = some (oZ 1000 fv0)) (hn : n = (aoL (clF x) PS 6 0 0)) (hR : PRel K Fs S sz P PS) (hA : AK B f g) (hB : 1000 ≤ B) (hBB : B + 10000 ≤ 8000000) (hk : 0 ≤ key ∧ key < 10) (hp : PLAN x PS) (ha : n ≤ 8) (hQ : ∀ h', MV h' g Kp dn km T ln P PS R Z I ik → FRm h h' → (∃ a1 a2, h'[51]? = some (oO 7 (mF dn km ln a1 a2 n (ordL (rOb P g key (aoL (clF x) PS 6 0 0)) (aoL (clF x) PS 6 0 0) 6561 (boL (clF x) PS 6 0 0 o0).2 0 0 2147483647 0 0 ws0 (flI fv0 0 1000)).1 (ordL (rOb P g key (aoL (clF x) PS 6 0 0)) (aoL (clF x) PS 6 0 0) 6561 (boL (clF x) PS 6 0 0 o0).2 0 0 2147483647 0 0 ws0 (flI fv0 0 1000)).2.1 (ordL (rOb P g key (aoL (clF x) PS 6 0 0)) (aoL (clF x) PS 6 0 0) 6561 (boL (clF x) PS 6 0 0 o0).2 0 0 2147483647 0 0 ws0 (flI fv0 0 1000)).2.2.1 (ordL (rOb P g key (aoL (clF x) PS 6 0 0)) (aoL (clF x) PS 6 0 0) 6561 (boL (clF x) PS 6 0 0 o0).2 0 0 2147483647 0 0 ws0 (flI fv0 0 1000)).2.2.2.1 (ordL (rOb P g key (aoL (clF x) PS 6 0 0)) (aoL (clF x) PS 6 0 0) 6561 (boL (clF x) PS 6 0 0 o0).2 0 0 2147483647 0 0 ws0 (flI fv0 0 1000)).2.2.2.2.1 ik))) → h'[61]? = some (oI 8 (ordL (rOb P g key (aoL (clF x) PS 6 0 0)) (aoL (clF x) PS 6 0 0) 6561 (boL (clF x) PS 6 0 0 o0).2 0 0 2147483647 0 0 ws0 (flI fv0 0 1000)).2.2.2.2.2) → Q none h') : Cl X kX7_goesThrough [vR 51, vI x, vI key] h Q := by
  refine cl_of rfl (Nat.le_of_ble_eq_true rfl) rfl ?_
  subst hn
  obtain ⟨-, m52, m53, m54, -, m56, m57, ⟨fr, m59⟩, -, -, ⟨dO0, m62⟩, -, -, -, -, m67, m68, m69, -⟩ := id hM
  have hzg : ZM g := hA.2.2.2
  have hPS : ∀ c, 0 ≤ c ∧ c < 6 → PS c = sz c := fun c hc => (hR c hc).1
  have hs : ∀ c, 0 ≤ c ∧ c < 6 → 0 ≤ PS c ∧ PS c ≤ 5 := fun c hc => by rw [hPS c hc]; exact (hR c hc).2.1
  have hO := ord0 hp hs ha o0
  have hO2 : ORD (clF x) sz (boL (clF x) PS 6 0 0 o0).2 (aoL (clF x) PS 6 0 0) := ⟨hO.1, hO.2.1, fun c hc h1 => by rw [hO.2.2 c hc h1, hPS c hc]⟩
  have vb := wvO_ok (clF_wb (x := x)) hp.2.1 hO.1 hO.2.1
  refine wp_aload_n dX7_goesThrough_0 rfl ?_
  refine wp_getf dX7_goesThrough_1 fX7_9 m51 rfl ?_
  refine wp_iconst dX7_goesThrough_4 ?_
  refine wp_aload_n dX7_goesThrough_5 rfl ?_
  refine wp_getf dX7_goesThrough_6 fX7_48 m51 rfl ?_
  refine wp_iconst dX7_goesThrough_9 ?_
  refine wp_sipush dX7_goesThrough_10 rfl ?_
  refine wp_copyi dX7_goesThrough_13 aX7_86 m52 m59 (by decide) (by decide) (by omega) (by omega) (by omega) (by omega) (by omega) (Nat.le_of_ble_eq_true rfl) (Nat.le_of_ble_eq_true rfl) ?_
  refine wp_iconst dX7_goesThrough_16 ?_
  refine wp_istore_n (L' := [some (vR 51), some (vI x), some (vI key), some (vI 0), none, none]) dX7_goesThrough_17 (by decide) rfl ?_
  have n63 : (h.set 59 (oI 1014 (cpI g fr 0 0 1014)))[63]? = some (oZ 1000 fv0) := (gs_ne (by decide) m63)
  rw [← set_same n63]
  refine lp_f0 (gs_ne (by decide) m51) n63 1000 0 fv0 (by omega) (by omega) (fun j => by rw [if_neg (by omega)]) ?_
  refine wp_aload_n dX7_goesThrough_38 rfl ?_
  refine wp_iconst dX7_goesThrough_39 ?_
  refine wp_putv (fs' := mF dn km ln at_ ft (aoL (clF x) PS 6 0 0) 0 om fw mo un ik) dX7_goesThrough_40 (pX7_260 rfl) (gs_ne (by decide) (gs_ne (by decide) m51)) (Nat.le_of_ble_eq_true rfl) (fitF_int _) rfl ?_
  refine wp_aload_n dX7_goesThrough_43 rfl ?_
  refine wp_iconst dX7_goesThrough_44 ?_
  refine wp_putv (fs' := mF dn km ln at_ ft (aoL (clF x) PS 6 0 0) 0 0 fw mo un ik) dX7_goesThrough_45 (pX7_263 rfl) (gs_eq (gs_l (gs_l (gs_lt m51)))) (Nat.le_of_ble_eq_true rfl) (fitF_int _) rfl ?_
  refine wp_aload_n dX7_goesThrough_48 rfl ?_
  refine wp_ldcw dX7_goesThrough_49 cX7_268 ?_
  refine wp_putv (fs' := mF dn km ln at_ ft (aoL (clF x) PS 6 0 0) 0 0 2147483647 mo un ik) dX7_goesThrough_52 (pX7_269 rfl) (gs_eq (gs_l (gs_l (gs_l (gs_lt m51))))) (Nat.le_of_ble_eq_true rfl) (fitF_int _) rfl ?_
  refine wp_aload_n dX7_goesThrough_55 rfl ?_
  refine wp_iconst dX7_goesThrough_56 ?_
  refine wp_putv (fs' := mF dn km ln at_ ft (aoL (clF x) PS 6 0 0) 0 0 2147483647 0 un ik) dX7_goesThrough_57 (pX7_272 rfl) (gs_eq (gs_l (gs_l (gs_l (gs_l (gs_lt m51)))))) (Nat.le_of_ble_eq_true rfl) (fitF_int _) rfl ?_
  refine wp_aload_n dX7_goesThrough_60 rfl ?_
  refine wp_iconst dX7_goesThrough_61 ?_
  refine wp_putv (fs' := mF dn km ln at_ ft (aoL (clF x) PS 6 0 0) 0 0 2147483647 0 0 ik) dX7_goesThrough_62 (pX7_275 rfl) (gs_eq (gs_l (gs_l (gs_l (gs_l (gs_l (gs_lt m51))))))) (Nat.le_of_ble_eq_true rfl) (fitF_int _) rfl ?_
  refine wp_aload_n dX7_goesThrough_65 rfl ?_
  refine wp_iload_n dX7_goesThrough_66 rfl ?_
  refine wp_iv1 dX7_goesThrough_67 VX7_firstOrder lX7_278 (gs_eq (gs_l (gs_l (gs_l (gs_l (gs_l (gs_l (gs_lt m51)))))))) (rq0 rfl rfl) (Nat.le_of_ble_eq_true rfl) (C_rfirst (gs_eq (gs_l (gs_l (gs_l (gs_l (gs_l (gs_l (gs_lt m51)))))))) (gs_ne (by decide) (gs_ne (by decide) (gs_ne (by decide) (gs_ne (by decide) (gs_ne (by decide) (gs_ne (by decide) (gs_ne (by decide) m57))))))) (gs_ne (by decide) (gs_ne (by decide) (gs_ne (by decide) (gs_ne (by decide) (gs_ne (by decide) (gs_ne (by decide) (gs_ne (by decide) m60))))))) hs ⟨by have := hp.1; omega, hp.1.2⟩ ha ?_)
  dsimp only [pushR]
  refine wp_iconst dX7_goesThrough_70 ?_
  refine wp_istore_n (L' := [some (vR 51), some (vI x), some (vI key), some (vI 1), none, none]) dX7_goesThrough_71 (by decide) rfl ?_
  have n59 : (h.set 59 (oI 1014 (cpI g fr 0 0 1014)))[59]? = some (oI 1014 (cpI g fr 0 0 1014)) := gs_eq (gs_lt m59)
  have n56 : (h.set 59 (oI 1014 (cpI g fr 0 0 1014)))[56]? = some (oI 90 P) := gs_ne (by decide) m56
  have hp0 : RPO (h.set 59 (oI 1014 (cpI g fr 0 0 1014))) ((((((((h.set 59 (oI 1014 (cpI g fr 0 0 1014))).set 63 (oZ 1000 (flI fv0 0 1000))).set 51 (oO 7 (mF dn km ln at_ ft (aoL (clF x) PS 6 0 0) 0 om fw mo un ik))).set 51 (oO 7 (mF dn km ln at_ ft (aoL (clF x) PS 6 0 0) 0 0 fw mo un ik))).set 51 (oO 7 (mF dn km ln at_ ft (aoL (clF x) PS 6 0 0) 0 0 2147483647 mo un ik))).set 51 (oO 7 (mF dn km ln at_ ft (aoL (clF x) PS 6 0 0) 0 0 2147483647 0 un ik))).set 51 (oO 7 (mF dn km ln at_ ft (aoL (clF x) PS 6 0 0) 0 0 2147483647 0 0 ik))).set 60 (oI 8 ((boL (clF x) PS 6 0 0 o0).2))) dn km ln at_ ft ik (aoL (clF x) PS 6 0 0) 0 0 2147483647 0 0 ((boL (clF x) PS 6 0 0 o0).2) ws0 dO0 (flI fv0 0 1000) g := ⟨by simp only [List.length_set], fun j q51 q52 q => by (repeat rw [List.getElem?_set_ne (by omega : (51 : Nat) ≠ j)]); (repeat rw [List.getElem?_set_ne (by omega : (60 : Nat) ≠ j)]); (repeat rw [List.getElem?_set_ne (by omega : (51 : Nat) ≠ j)]); (repeat rw [List.getElem?_set_ne (by omega : (63 : Nat) ≠ j)]), (gs_ne (by decide) (gs_eq (gs_l (gs_l (gs_l (gs_l (gs_l (gs_l (gs_lt m51))))))))), (gs_ne (by decide) (gs_ne (by decide) (gs_ne (by decide) (gs_ne (by decide) (gs_ne (by decide) (gs_ne (by decide) (gs_ne (by decide) (gs_ne (by decide) m52)))))))), (gs_eq (gs_l (gs_l (gs_l (gs_l (gs_l (gs_l (gs_l (gs_lt m60))))))))), (gs_ne (by decide) (gs_ne (by decide) (gs_ne (by decide) (gs_ne (by decide) (gs_ne (by decide) (gs_ne (by decide) (gs_ne (by decide) (gs_ne (by decide) m61)))))))), (gs_ne (by decide) (gs_ne (by decide) (gs_ne (by decide) (gs_ne (by decide) (gs_ne (by decide) (gs_ne (by decide) (gs_ne (by decide) (gs_ne (by decide) m62)))))))), (gs_ne (by decide) (gs_ne (by decide) (gs_ne (by decide) (gs_ne (by decide) (gs_ne (by decide) (gs_ne (by decide) (gs_eq (gs_l (gs_lt m63)))))))))⟩
  refine lp_gr n56 n59 hzg hR clF_wb hp.2.1 hA hB hBB hk 6561 _ 0 0 2147483647 0 0 ws0 dO0 (flI fv0 0 1000) g _ _ _ (by omega) hO2 (by omega) (by unfold r32; omega) (by unfold r32; omega) hzg (fun v hv => Or.inl (if_pos ⟨hv.1, by omega⟩)) hp0 (fun h1 o1 d1 fv1 g1 y4 y5 zg1 hp1 => ?_)
  obtain ⟨s1, s2, s51, s52, s60, s61, s62, s63⟩ := id hp1
  have s59 := (s2 59 (by decide) (by decide) (by decide)).trans n59
  refine wp_aload_n dX7_goesThrough_199 rfl ?_
  refine wp_getf dX7_goesThrough_200 fX7_48 s51 rfl ?_
  refine wp_iconst dX7_goesThrough_203 ?_
  refine wp_aload_n dX7_goesThrough_204 rfl ?_
  refine wp_getf dX7_goesThrough_205 fX7_9 s51 rfl ?_
  refine wp_iconst dX7_goesThrough_208 ?_
  refine wp_sipush dX7_goesThrough_209 rfl ?_
  refine wp_copyi dX7_goesThrough_212 aX7_86 s59 s52 (by decide) (by decide) (by omega) (by omega) (by omega) (by omega) (by omega) (Nat.le_of_ble_eq_true rfl) (Nat.le_of_ble_eq_true rfl) ?_
  exact wp_ret dX7_goesThrough_215 rfl (by rw [cp_back hzg zg1]; exact hQ _ (MV.or hM (gs_ne (by decide) s51) (gs_eq (gs_lt s52)) ⟨_, gs_ne (by decide) s59⟩ ⟨_, gs_ne (by decide) s60⟩ ⟨_, gs_ne (by decide) s61⟩ ⟨_, gs_ne (by decide) s62⟩ ⟨_, gs_ne (by decide) s63⟩ (fun j q51 q52 q59 q => by rw [List.getElem?_set_ne (by omega), s2 j q51 q52 q, List.getElem?_set_ne (by omega)])) ⟨by rw [List.length_set, s1, List.length_set], fun j hj => by rw [List.getElem?_set_ne (by omega), s2 j (by omega) (by omega) (by omega), List.getElem?_set_ne (by omega)]⟩ ⟨_, _, gs_ne (by decide) s51⟩ (gs_ne (by decide) s61))
set_option maxHeartbeats 4000000 in
theorem C_rorders (hM : MV h g Kp dn km T ln P PS R Z I ik) (hR : PRel K Fs S sz P PS) (hA : AK B f g) (hB : 1000 ≤ B) (hBB : B + 10000 ≤ 8000000) (rx : r32 x) (rkey : r32 key) (ri : r32 i) (hQ0 : ¬ (PLAN x PS ∧ (0 ≤ key ∧ key < 10) ∧ 0 ≤ i ∧ i < 5) → Q (some (vI (-1))) h) (hQ1 : PLAN x PS ∧ (0 ≤ key ∧ key < 10) ∧ 0 ≤ i ∧ i < 5 → 8 < (aoL (clF x) PS 6 0 0) → Q (some (vI (-5))) h) (hQ : PLAN x PS ∧ (0 ≤ key ∧ key < 10) ∧ 0 ≤ i ∧ i < 5 → (aoL (clF x) PS 6 0 0) ≤ 8 → ∀ h' R_, (∃ o0 ws0 fv0, R_ = (ordL (rOb P g key (aoL (clF x) PS 6 0 0)) (aoL (clF x) PS 6 0 0) 6561 (boL (clF x) PS 6 0 0 o0).2 0 0 2147483647 0 0 ws0 (flI fv0 0 1000))) → MV h' g Kp dn km T ln P PS R Z I ik → FRm h h' → Q (some (vI (oPick R_ i))) h') : Cl X kX7_orders [vR 51, vI x, vI key, vI i] h Q := by
  refine cl_of rfl (Nat.le_of_ble_eq_true rfl) rfl ?_
  obtain ⟨⟨at_, ft, ac, mn, om, fw, mo, un, m51⟩, m52, m53, m54, -, m56, m57, -, ⟨o0, m60⟩, ⟨ws0, m61⟩, -, ⟨fv0, m63⟩, -, -, -, m67, m68, m69, -⟩ := id hM
  have hPS : ∀ c, 0 ≤ c ∧ c < 6 → PS c = sz c := fun c hc => (hR c hc).1
  have hs : ∀ c, 0 ≤ c ∧ c < 6 → 0 ≤ PS c ∧ PS c ≤ 5 := fun c hc => by rw [hPS c hc]; exact (hR c hc).2.1
  have ab := aoL_b (cl := clF x) hs 6 0 0 (by omega) (by omega)
  refine wp_aload_n dX7_orders_0 rfl ?_
  refine wp_iload_n dX7_orders_1 rfl ?_
  refine wp_iv1 dX7_orders_2 VX7_actsOf lX7_305 m51 (rq0 rfl rfl) (Nat.le_of_ble_eq_true rfl) (C_ractsOf m51 m57 hs rx (fun pp al => ?_) (fun pp al => ?_) (fun pp => ?_))
  · dsimp only [pushR]
    refine wp_istore (L' := [some (vR 51), some (vI x), some (vI key), some (vI i), some (vI (aoL (clF x) PS 6 0 0))]) dX7_orders_5 (by decide) rfl ?_
    refine wp_iload dX7_orders_7 rfl ?_
    refine wp_iconst dX7_orders_9 ?_
    refine wp_icmp_eq 32 dX7_orders_10 rfl (by first | assumption | (unfold r32; omega)) ⟨by omega, by omega⟩ (fun c10 => ?_) (fun c10 => ?_)
    · refine wp_iconst dX7_orders_32 ?_
      exact wp_iret dX7_orders_33 rfl (hQ0 (fun q => by first | exact pp q.1 | omega))
    · refine wp_iload_n dX7_orders_13 rfl ?_
      refine wp_is1 dX7_orders_14 SX7_isKey lX7_158 (rq0 rfl rfl) (Nat.le_of_ble_eq_true rfl) (C_isKey (by first | assumption | exact hR _ | exact bI_r _ | (unfold r32; omega)) ?_)
      dsimp only [pushR]
      refine wp_beq 32 dX7_orders_17 rfl (fun c17 => ?_) (fun c17 => ?_)
      · refine wp_iconst dX7_orders_32 ?_
        exact wp_iret dX7_orders_33 rfl (hQ0 (fun q => by first | exact pp q.1 | omega))
      · refine wp_iload_n dX7_orders_20 rfl ?_
        refine wp_i2l dX7_orders_21 (by first | assumption | (unfold r32; omega)) ?_
        refine wp_lconst (z := 0) dX7_orders_22 rfl ?_
        refine wp_ldc2 dX7_orders_23 cX7_308 ?_
        refine wp_is3 dX7_orders_26 SX7_in lX7_94 (rq0 rfl rfl) (Nat.le_of_ble_eq_true rfl) (C_in (by first | assumption | exact r64_of (hR _) | (unfold r64 r32 at *; omega)) (by first | assumption | exact r64_of (hR _) | (unfold r64 r32 at *; omega)) (by first | assumption | exact r64_of (hR _) | (unfold r64 r32 at *; omega)) ?_)
        dsimp only [pushR]
        refine wp_bne 34 dX7_orders_29 rfl (fun c29 => ?_) (fun c29 => ?_)
        · refine wp_iload dX7_orders_34 rfl ?_
          refine wp_bipush dX7_orders_36 rfl ?_
          refine wp_icmp_ne 44 dX7_orders_38 rfl (by first | assumption | (unfold r32; omega)) ⟨by omega, by omega⟩ (fun c38 => ?_) (fun c38 => ?_)
          · refine wp_aload_n dX7_orders_44 rfl ?_
            refine wp_iload dX7_orders_45 rfl ?_
            refine wp_putv (fs' := mF dn km ln at_ ft (aoL (clF x) PS 6 0 0) mn om fw mo un ik) dX7_orders_47 (pX7_257 rfl) m51 (Nat.le_of_ble_eq_true rfl) (fitF_int _) rfl ?_
            refine wp_aload_n dX7_orders_50 rfl ?_
            refine wp_iload_n dX7_orders_51 rfl ?_
            refine wp_iload_n dX7_orders_52 rfl ?_
            have hM2 : MV (h.set 51 (oO 7 (mF dn km ln at_ ft (aoL (clF x) PS 6 0 0) mn om fw mo un ik))) g Kp dn km T ln P PS R Z I ik := MV.or hM (gs_eq (gs_lt m51)) (gs_ne (by decide) m52) (by obtain ⟨-, -, -, -, -, -, -, q, -⟩ := id hM; obtain ⟨z, q⟩ := q; exact ⟨z, gs_ne (by decide) q⟩) ⟨_, gs_ne (by decide) m60⟩ ⟨_, gs_ne (by decide) m61⟩ (by obtain ⟨-, -, -, -, -, -, -, -, -, -, q, -⟩ := id hM; obtain ⟨z, q⟩ := q; exact ⟨z, gs_ne (by decide) q⟩) ⟨_, gs_ne (by decide) m63⟩ (fun j q51 q52 q59 q => List.getElem?_set_ne (by omega))
            refine wp_iv2 dX7_orders_53 VX7_goesThrough lX7_310 (gs_eq (gs_lt m51)) (rq0 rfl rfl) (Nat.le_of_ble_eq_true rfl) (C_goesThrough hM2 (gs_eq (gs_lt m51)) (gs_ne (by decide) m60) (gs_ne (by decide) m61) (gs_ne (by decide) m63) rfl hR hA hB hBB (by omega) pp al (fun h' M' F' ⟨a1, a2, g51⟩ g61 => ?_))
            dsimp only [pushR]
            have F2 : FRm h h' := (FRm.st (by decide)).tr F'
            have qv := hQ ⟨pp, by omega⟩ al h' _ ⟨o0, ws0, fv0, rfl⟩ M' F2
            have rs := ord_s (ob := rOb P g key (aoL (clF x) PS 6 0 0)) (n := (aoL (clF x) PS 6 0 0)) (kk := 6561) (o := (boL (clF x) PS 6 0 0 o0).2) (ord0 pp hs al o0).1 0 0 2147483647 0 0 ws0 (flI fv0 0 1000) (by omega)
            have rs0 := ord_s0 (ob := rOb P g key (aoL (clF x) PS 6 0 0)) (n := (aoL (clF x) PS 6 0 0)) 6561 (boL (clF x) PS 6 0 0 o0).2 0 0 2147483647 0 0 ws0 (flI fv0 0 1000) (by omega)
            generalize (ordL (rOb P g key (aoL (clF x) PS 6 0 0)) (aoL (clF x) PS 6 0 0) 6561 (boL (clF x) PS 6 0 0 o0).2 0 0 2147483647 0 0 ws0 (flI fv0 0 1000)) = N at *
            refine wp_iload_n dX7_orders_56 rfl ?_
            rcases Decidable.em (i = 0) with e57_0 | e57_0
            · refine wp_tableIn (off := 31) 88 dX7_orders_57 (by first | assumption | (unfold r32; omega)) (by omega) (by omega) (by rw [e57_0]; rfl) rfl ?_
              refine wp_aload_n dX7_orders_88 rfl ?_
              refine wp_getf dX7_orders_89 fX7_260 g51 rfl ?_
              exact wp_iret dX7_orders_92 rfl (by unfold oPick at qv; (repeat' split at qv) <;> first | (exfalso; omega) | exact qv)
            rcases Decidable.em (i = 1) with e57_1 | e57_1
            · refine wp_tableIn (off := 36) 93 dX7_orders_57 (by first | assumption | (unfold r32; omega)) (by omega) (by omega) (by rw [e57_1]; rfl) rfl ?_
              refine wp_aload_n dX7_orders_93 rfl ?_
              refine wp_getf dX7_orders_94 fX7_263 g51 rfl ?_
              exact wp_iret dX7_orders_97 rfl (by unfold oPick at qv; (repeat' split at qv) <;> first | (exfalso; omega) | exact qv)
            rcases Decidable.em (i = 2) with e57_2 | e57_2
            · refine wp_tableIn (off := 41) 98 dX7_orders_57 (by first | assumption | (unfold r32; omega)) (by omega) (by omega) (by rw [e57_2]; rfl) rfl ?_
              refine wp_aload_n dX7_orders_98 rfl ?_
              refine wp_getf dX7_orders_99 fX7_269 g51 rfl ?_
              exact wp_iret dX7_orders_102 rfl (by unfold oPick at qv; (repeat' split at qv) <;> first | (exfalso; omega) | exact qv)
            rcases Decidable.em (i = 3) with e57_3 | e57_3
            · refine wp_tableIn (off := 46) 103 dX7_orders_57 (by first | assumption | (unfold r32; omega)) (by omega) (by omega) (by rw [e57_3]; rfl) rfl ?_
              refine wp_aload_n dX7_orders_103 rfl ?_
              refine wp_getf dX7_orders_104 fX7_272 g51 rfl ?_
              exact wp_iret dX7_orders_107 rfl (by unfold oPick at qv; (repeat' split at qv) <;> first | (exfalso; omega) | exact qv)
            refine wp_tableOut 108 dX7_orders_57 (by first | assumption | (unfold r32; omega)) (by omega) rfl ?_
            refine wp_aload_n dX7_orders_108 rfl ?_
            refine wp_getf dX7_orders_109 fX7_275 g51 rfl ?_
            exact wp_iret dX7_orders_112 rfl (by unfold oPick at qv; (repeat' split at qv) <;> first | (exfalso; omega) | exact qv)
          · refine wp_bipush dX7_orders_41 rfl ?_
            exact wp_iret dX7_orders_43 rfl (hQ1 ⟨pp, by omega⟩ (by omega))
        · refine wp_iconst dX7_orders_32 ?_
          exact wp_iret dX7_orders_33 rfl (hQ0 (fun q => by first | exact pp q.1 | omega))
  · dsimp only [pushR]
    refine wp_istore (L' := [some (vR 51), some (vI x), some (vI key), some (vI i), some (vI (-5))]) dX7_orders_5 (by decide) rfl ?_
    refine wp_iload dX7_orders_7 rfl ?_
    refine wp_iconst dX7_orders_9 ?_
    refine wp_icmp_eq 32 dX7_orders_10 rfl ⟨by omega, by omega⟩ ⟨by omega, by omega⟩ (fun c10 => absurd c10 (by omega)) (fun c10 => ?_)
    refine wp_iload_n dX7_orders_13 rfl ?_
    refine wp_is1 dX7_orders_14 SX7_isKey lX7_158 (rq0 rfl rfl) (Nat.le_of_ble_eq_true rfl) (C_isKey (by first | assumption | exact hR _ | exact bI_r _ | (unfold r32; omega)) ?_)
    dsimp only [pushR]
    refine wp_beq 32 dX7_orders_17 rfl (fun c17 => ?_) (fun c17 => ?_)
    · refine wp_iconst dX7_orders_32 ?_
      exact wp_iret dX7_orders_33 rfl (hQ0 (fun q => by first | exact pp q.1 | omega))
    · refine wp_iload_n dX7_orders_20 rfl ?_
      refine wp_i2l dX7_orders_21 (by first | assumption | (unfold r32; omega)) ?_
      refine wp_lconst (z := 0) dX7_orders_22 rfl ?_
      refine wp_ldc2 dX7_orders_23 cX7_308 ?_
      refine wp_is3 dX7_orders_26 SX7_in lX7_94 (rq0 rfl rfl) (Nat.le_of_ble_eq_true rfl) (C_in (by first | assumption | exact r64_of (hR _) | (unfold r64 r32 at *; omega)) (by first | assumption | exact r64_of (hR _) | (unfold r64 r32 at *; omega)) (by first | assumption | exact r64_of (hR _) | (unfold r64 r32 at *; omega)) ?_)
      dsimp only [pushR]
      refine wp_bne 34 dX7_orders_29 rfl (fun c29 => ?_) (fun c29 => ?_)
      · refine wp_iload dX7_orders_34 rfl ?_
        refine wp_bipush dX7_orders_36 rfl ?_
        refine wp_icmp_ne 44 dX7_orders_38 rfl ⟨by omega, by omega⟩ ⟨by omega, by omega⟩ (fun c38 => absurd c38 (by omega)) (fun c38 => ?_)
        refine wp_bipush dX7_orders_41 rfl ?_
        exact wp_iret dX7_orders_43 rfl (hQ1 ⟨pp, by omega⟩ (by omega))
      · refine wp_iconst dX7_orders_32 ?_
        exact wp_iret dX7_orders_33 rfl (hQ0 (fun q => by first | exact pp q.1 | omega))
  · dsimp only [pushR]
    refine wp_istore (L' := [some (vR 51), some (vI x), some (vI key), some (vI i), some (vI (-1))]) dX7_orders_5 (by decide) rfl ?_
    refine wp_iload dX7_orders_7 rfl ?_
    refine wp_iconst dX7_orders_9 ?_
    refine wp_icmp_eq 32 dX7_orders_10 rfl ⟨by omega, by omega⟩ ⟨by omega, by omega⟩ (fun c10 => ?_) (fun c10 => absurd c10 (by omega))
    refine wp_iconst dX7_orders_32 ?_
    exact wp_iret dX7_orders_33 rfl (hQ0 (fun q => by first | exact pp q.1 | omega))
set_option maxHeartbeats 4000000 in
theorem C_rwitness (hM : MV h g Kp dn km T ln P PS R Z I ik) (hR : PRel K Fs S sz P PS) (hA : AK B f g) (hB : 1000 ≤ B) (hBB : B + 10000 ≤ 8000000) (rx : r32 x) (rk : r32 k) (hQ0 : ¬ (PLAN x PS ∧ 0 ≤ k) → Q (some (vI (-1))) h) (hQ1 : PLAN x PS ∧ 0 ≤ k → 8 < (aoL (clF x) PS 6 0 0) → Q (some (vI (-5))) h) (hQ : PLAN x PS ∧ 0 ≤ k → (aoL (clF x) PS 6 0 0) ≤ 8 → ∀ h' R_, (∃ o0 ws0 fv0, R_ = (ordL (rOb P g 0 (aoL (clF x) PS 6 0 0)) (aoL (clF x) PS 6 0 0) 6561 (boL (clF x) PS 6 0 0 o0).2 0 0 2147483647 0 0 ws0 (flI fv0 0 1000))) → MV h' g Kp dn km T ln P PS R Z I ik → FRm h h' → Q (some (vI (oWit R_ (aoL (clF x) PS 6 0 0) k))) h') : Cl X kX7_witness [vR 51, vI x, vI k] h Q := by
  refine cl_of rfl (Nat.le_of_ble_eq_true rfl) rfl ?_
  obtain ⟨⟨at_, ft, ac, mn, om, fw, mo, un, m51⟩, m52, m53, m54, -, m56, m57, -, ⟨o0, m60⟩, ⟨ws0, m61⟩, -, ⟨fv0, m63⟩, -, -, -, m67, m68, m69, -⟩ := id hM
  have hPS : ∀ c, 0 ≤ c ∧ c < 6 → PS c = sz c := fun c hc => (hR c hc).1
  have hs : ∀ c, 0 ≤ c ∧ c < 6 → 0 ≤ PS c ∧ PS c ≤ 5 := fun c hc => by rw [hPS c hc]; exact (hR c hc).2.1
  have ab := aoL_b (cl := clF x) hs 6 0 0 (by omega) (by omega)
  refine wp_aload_n dX7_witness_0 rfl ?_
  refine wp_iload_n dX7_witness_1 rfl ?_
  refine wp_iv1 dX7_witness_2 VX7_actsOf lX7_305 m51 (rq0 rfl rfl) (Nat.le_of_ble_eq_true rfl) (C_ractsOf m51 m57 hs rx (fun pp al => ?_) (fun pp al => ?_) (fun pp => ?_))
  · dsimp only [pushR]
    refine wp_istore_n (L' := [some (vR 51), some (vI x), some (vI k), some (vI (aoL (clF x) PS 6 0 0))]) dX7_witness_5 (by decide) rfl ?_
    refine wp_iload_n dX7_witness_6 rfl ?_
    refine wp_iconst dX7_witness_7 ?_
    refine wp_icmp_eq 15 dX7_witness_8 rfl (by first | assumption | (unfold r32; omega)) ⟨by omega, by omega⟩ (fun c8 => ?_) (fun c8 => ?_)
    · refine wp_iconst dX7_witness_15 ?_
      exact wp_iret dX7_witness_16 rfl (hQ0 (fun q => by first | exact pp q.1 | omega))
    · refine wp_iload_n dX7_witness_11 rfl ?_
      refine wp_if_ge 17 dX7_witness_12 rfl (by first | assumption | (unfold r32; omega)) (fun c12 => ?_) (fun c12 => ?_)
      · refine wp_iload_n dX7_witness_17 rfl ?_
        refine wp_bipush dX7_witness_18 rfl ?_
        refine wp_icmp_ne 26 dX7_witness_20 rfl (by first | assumption | (unfold r32; omega)) ⟨by omega, by omega⟩ (fun c20 => ?_) (fun c20 => ?_)
        · refine wp_aload_n dX7_witness_26 rfl ?_
          refine wp_iload_n dX7_witness_27 rfl ?_
          refine wp_putv (fs' := mF dn km ln at_ ft (aoL (clF x) PS 6 0 0) mn om fw mo un ik) dX7_witness_28 (pX7_257 rfl) m51 (Nat.le_of_ble_eq_true rfl) (fitF_int _) rfl ?_
          refine wp_aload_n dX7_witness_31 rfl ?_
          refine wp_iload_n dX7_witness_32 rfl ?_
          refine wp_iconst dX7_witness_33 ?_
          have hM2 : MV (h.set 51 (oO 7 (mF dn km ln at_ ft (aoL (clF x) PS 6 0 0) mn om fw mo un ik))) g Kp dn km T ln P PS R Z I ik := MV.or hM (gs_eq (gs_lt m51)) (gs_ne (by decide) m52) (by obtain ⟨-, -, -, -, -, -, -, q, -⟩ := id hM; obtain ⟨z, q⟩ := q; exact ⟨z, gs_ne (by decide) q⟩) ⟨_, gs_ne (by decide) m60⟩ ⟨_, gs_ne (by decide) m61⟩ (by obtain ⟨-, -, -, -, -, -, -, -, -, -, q, -⟩ := id hM; obtain ⟨z, q⟩ := q; exact ⟨z, gs_ne (by decide) q⟩) ⟨_, gs_ne (by decide) m63⟩ (fun j q51 q52 q59 q => List.getElem?_set_ne (by omega))
          refine wp_iv2 dX7_witness_34 VX7_goesThrough lX7_310 (gs_eq (gs_lt m51)) (rq0 rfl rfl) (Nat.le_of_ble_eq_true rfl) (C_goesThrough hM2 (gs_eq (gs_lt m51)) (gs_ne (by decide) m60) (gs_ne (by decide) m61) (gs_ne (by decide) m63) rfl hR hA hB hBB (by omega) pp al (fun h' M' F' ⟨a1, a2, g51⟩ g61 => ?_))
          dsimp only [pushR]
          have F2 : FRm h h' := (FRm.st (by decide)).tr F'
          have qv := hQ ⟨pp, by omega⟩ al h' _ ⟨o0, ws0, fv0, rfl⟩ M' F2
          have rs := ord_s (ob := rOb P g 0 (aoL (clF x) PS 6 0 0)) (n := (aoL (clF x) PS 6 0 0)) (kk := 6561) (o := (boL (clF x) PS 6 0 0 o0).2) (ord0 pp hs al o0).1 0 0 2147483647 0 0 ws0 (flI fv0 0 1000) (by omega)
          have rs0 := ord_s0 (ob := rOb P g 0 (aoL (clF x) PS 6 0 0)) (n := (aoL (clF x) PS 6 0 0)) 6561 (boL (clF x) PS 6 0 0 o0).2 0 0 2147483647 0 0 ws0 (flI fv0 0 1000) (by omega)
          generalize (ordL (rOb P g 0 (aoL (clF x) PS 6 0 0)) (aoL (clF x) PS 6 0 0) 6561 (boL (clF x) PS 6 0 0 o0).2 0 0 2147483647 0 0 ws0 (flI fv0 0 1000)) = N at *
          refine wp_aload_n dX7_witness_37 rfl ?_
          refine wp_getf dX7_witness_38 fX7_263 g51 rfl ?_
          refine wp_if_eq 52 dX7_witness_41 rfl (by first | assumption | (unfold r32; omega)) (fun c41 => ?_) (fun c41 => ?_)
          · refine wp_bipush dX7_witness_52 rfl ?_
            refine wp_goto 63 dX7_witness_54 rfl ?_
            exact wp_iret dX7_witness_63 rfl (by unfold oWit at qv; (repeat' split at qv) <;> first | (exfalso; omega) | exact qv)
          · refine wp_iload_n dX7_witness_44 rfl ?_
            refine wp_aload_n dX7_witness_45 rfl ?_
            refine wp_getf dX7_witness_46 fX7_257 g51 rfl ?_
            refine wp_icmp_lt 57 dX7_witness_49 rfl (by first | assumption | (unfold r32; omega)) (by first | assumption | (unfold r32; omega)) (fun c49 => ?_) (fun c49 => ?_)
            · refine wp_aload_n dX7_witness_57 rfl ?_
              refine wp_getf dX7_witness_58 fX7_54 g51 rfl ?_
              refine wp_iload_n dX7_witness_61 rfl ?_
              refine wp_iav (v := N.2.2.2.2.2 k) dX7_witness_62 g61 (by decide) (by omega) rfl ?_
              exact wp_iret dX7_witness_63 rfl (by unfold oWit at qv; (repeat' split at qv) <;> first | (exfalso; omega) | exact qv)
            · refine wp_bipush dX7_witness_52 rfl ?_
              refine wp_goto 63 dX7_witness_54 rfl ?_
              exact wp_iret dX7_witness_63 rfl (by unfold oWit at qv; (repeat' split at qv) <;> first | (exfalso; omega) | exact qv)
        · refine wp_bipush dX7_witness_23 rfl ?_
          exact wp_iret dX7_witness_25 rfl (hQ1 ⟨pp, by omega⟩ (by omega))
      · refine wp_iconst dX7_witness_15 ?_
        exact wp_iret dX7_witness_16 rfl (hQ0 (fun q => by first | exact pp q.1 | omega))
  · dsimp only [pushR]
    refine wp_istore_n (L' := [some (vR 51), some (vI x), some (vI k), some (vI (-5))]) dX7_witness_5 (by decide) rfl ?_
    refine wp_iload_n dX7_witness_6 rfl ?_
    refine wp_iconst dX7_witness_7 ?_
    refine wp_icmp_eq 15 dX7_witness_8 rfl ⟨by omega, by omega⟩ ⟨by omega, by omega⟩ (fun c8 => absurd c8 (by omega)) (fun c8 => ?_)
    refine wp_iload_n dX7_witness_11 rfl ?_
    refine wp_if_ge 17 dX7_witness_12 rfl (by first | assumption | (unfold r32; omega)) (fun c12 => ?_) (fun c12 => ?_)
    · refine wp_iload_n dX7_witness_17 rfl ?_
      refine wp_bipush dX7_witness_18 rfl ?_
      refine wp_icmp_ne 26 dX7_witness_20 rfl ⟨by omega, by omega⟩ ⟨by omega, by omega⟩ (fun c20 => absurd c20 (by omega)) (fun c20 => ?_)
      refine wp_bipush dX7_witness_23 rfl ?_
      exact wp_iret dX7_witness_25 rfl (hQ1 ⟨pp, by omega⟩ (by omega))
    · refine wp_iconst dX7_witness_15 ?_
      exact wp_iret dX7_witness_16 rfl (hQ0 (fun q => by first | exact pp q.1 | omega))
  · dsimp only [pushR]
    refine wp_istore_n (L' := [some (vR 51), some (vI x), some (vI k), some (vI (-1))]) dX7_witness_5 (by decide) rfl ?_
    refine wp_iload_n dX7_witness_6 rfl ?_
    refine wp_iconst dX7_witness_7 ?_
    refine wp_icmp_eq 15 dX7_witness_8 rfl ⟨by omega, by omega⟩ ⟨by omega, by omega⟩ (fun c8 => ?_) (fun c8 => absurd c8 (by omega))
    refine wp_iconst dX7_witness_15 ?_
    exact wp_iret dX7_witness_16 rfl (hQ0 (fun q => by first | exact pp q.1 | omega))
theorem ordL_fv {ob : (Int → Int) → Int × Int × Int} (hw : WB cl) (hV : ∀ o, ORD cl sz o n → (ob o).2.2 < 1000) : ∀ (kk : Nat) (o : Int → Int) (t s l m un : Int) (fs fv fv' : Int → Int), ORD cl sz o n → (∀ v, 0 ≤ v ∧ v < 1000 → fv v = fv' v) → ordL ob n kk o t s l m un fs fv = ordL ob n kk o t s l m un fs fv' := by
  intro kk
  induction kk with
  | zero => intro o t s l m un fs fv fv' _ _; rfl
  | succ kk ih =>
    intro o t s l m un fs fv fv' hO he
    have v := hV o hO
    have ec : (0 ≤ (ob o).2.2 ∧ fv (ob o).2.2 = 0) ↔ (0 ≤ (ob o).2.2 ∧ fv' (ob o).2.2 = 0) := ⟨fun q => ⟨q.1, by rw [← he _ ⟨q.1, v⟩]; exact q.2⟩, fun q => ⟨q.1, by rw [he _ ⟨q.1, v⟩]; exact q.2⟩⟩
    unfold ordL
    by_cases c : 0 ≤ (ob o).2.2 ∧ fv (ob o).2.2 = 0
    · simp only [if_pos c, if_pos (ec.mp c)]
      by_cases r : risO o n < 0
      · rw [if_pos r, if_pos r]
      · rw [if_neg r, if_neg r]
        refine ih _ _ _ _ _ _ _ _ _ (hO.nx hw (by omega)) (fun u hu => ?_)
        unfold ud
        split
        · rfl
        · exact he u hu
    · simp only [if_neg c, if_neg (fun q => c (ec.mpr q))]
      by_cases r : risO o n < 0
      · rw [if_pos r, if_pos r]
      · rw [if_neg r, if_neg r]
        exact ih _ _ _ _ _ _ _ _ _ (hO.nx hw (by omega)) he
/-- orders and witness answer alike -/
theorem A_orders {R_ : Int × Int × Int × Int × Int × (Int → Int)} {o1 : Int → Int} (hR : PRel K Fs S sz P PS) (hA : AK B f g) (hB : 1000 ≤ B) (hBB : B + 10000 ≤ 8000000) (hk : 0 ≤ key ∧ key < 10) (hp : PLAN x sz) (ha : aoL (clF x) sz 6 0 0 ≤ 8) (hE : ∃ o0 ws0 fv0, R_ = (ordL (rOb P g key (aoL (clF x) PS 6 0 0)) (aoL (clF x) PS 6 0 0) 6561 (boL (clF x) PS 6 0 0 o0).2 0 0 2147483647 0 0 ws0 (flI fv0 0 1000))) : (∀ i, oPick (ordL (cOb K Fs S f key (aoL (clF x) sz 6 0 0)) (aoL (clF x) sz 6 0 0) 6561 (boL (clF x) sz 6 0 0 o1).2 0 0 2147483647 0 0 fs0 z0) i = oPick R_ i) ∧ ∀ k, 0 ≤ k → oWit (ordL (cOb K Fs S f key (aoL (clF x) sz 6 0 0)) (aoL (clF x) sz 6 0 0) 6561 (boL (clF x) sz 6 0 0 o1).2 0 0 2147483647 0 0 fs0 z0) (aoL (clF x) sz 6 0 0) k = oWit R_ (aoL (clF x) PS 6 0 0) k := by
  obtain ⟨o0, ws0, fv0, rfl⟩ := hE
  have hPS : ∀ c, 0 ≤ c ∧ c < 6 → PS c = sz c := fun c hc => (hR c hc).1
  have hs : ∀ c, 0 ≤ c ∧ c < 6 → 0 ≤ sz c ∧ sz c ≤ 5 := fun c hc => (hR c hc).2.1
  rw [aoL_cong (cl := clF x) hPS 6 0 0 (by omega) (by omega), boL_cong (cl := clF x) hPS 6 0 0 o0 (by omega) (by omega)]
  have e1 := boL_1 (cl := clF x) hs 6 0 0 o1 (by omega) (by omega)
  have ag := boL_ag (cl := clF x) (sz := sz) 6 0 0 o1 o0 (by omega) (fun i hi => by omega)
  rw [e1] at ag
  have hO := ord0 hp hs ha o1
  have hO2 := ord0 hp hs ha o0
  have hV : ∀ o, ORD (clF x) sz o (aoL (clF x) sz 6 0 0) → (rOb P g key (aoL (clF x) sz 6 0 0) o).2.2 < 1000 := fun o ho => by
    have ex := ex_eq hR ho (aoL (clF x) sz 6 0 0).toNat 0 z0 f g B (by have := ho.1; omega) (by omega) (don0 (fun c _ => rfl)) hA hB (by have := ho.1; omega)
    have en := (ex.2.1.en (a := 0) (k := key) (by omega) hk).2.1
    unfold rOb
    dsimp only
    split <;> omega
  rw [ordL_fv clF_wb hV 6561 _ 0 0 2147483647 0 0 ws0 (flI fv0 0 1000) z0 hO2 (fun v hv => if_pos ⟨hv.1, by omega⟩)]
  have q := ordL_eq (ob := cOb K Fs S f key (aoL (clF x) sz 6 0 0)) (ob' := rOb P g key (aoL (clF x) sz 6 0 0)) (clF_wb (x := x)) (fun o o' h1 h2 => by rw [ob_eq hR h2 hA hB hBB hk]; exact rOb_ag h1 (by have := h2.1; omega)) 6561 _ _ 0 0 2147483647 0 0 fs0 ws0 z0 ag hO (by omega) (fun z => absurd z (by omega))
  generalize ordL (cOb K Fs S f key (aoL (clF x) sz 6 0 0)) (aoL (clF x) sz 6 0 0) 6561 (boL (clF x) sz 6 0 0 o1).2 0 0 2147483647 0 0 fs0 z0 = C at *
  generalize ordL (rOb P g key (aoL (clF x) sz 6 0 0)) (aoL (clF x) sz 6 0 0) 6561 (boL (clF x) sz 6 0 0 o0).2 0 0 2147483647 0 0 ws0 z0 = D at *
  obtain ⟨q1, q2, q3, q4, q5, q6, q7⟩ := q
  refine ⟨fun i => by unfold oPick; rw [q1, q2, q3, q4, q5], fun k hk0 => ?_⟩
  unfold oWit
  rw [← q2]
  by_cases c : 0 < C.2.1 ∧ k < aoL (clF x) sz 6 0 0
  · rw [if_pos c, if_pos c]; exact q7 c.1 k ⟨hk0, c.2⟩
  · rw [if_neg c, if_neg c]
theorem PLAN_eq (hR : PRel K Fs S sz P PS) : PLAN x PS ↔ PLAN x sz := by
  have hPS : ∀ c, 0 ≤ c ∧ c < 6 → PS c = sz c := fun c hc => (hR c hc).1
  unfold PLAN
  exact ⟨fun q => ⟨q.1, q.2.1, fun c hc h1 => by rw [← hPS c hc]; exact q.2.2 c hc h1⟩, fun q => ⟨q.1, q.2.1, fun c hc h1 => by rw [hPS c hc]; exact q.2.2 c hc h1⟩⟩
end OF_
