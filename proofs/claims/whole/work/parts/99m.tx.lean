/-! texts: their rules, length and charAt -/
def xkC : Nat → List Int
  | 0 => [103, 101, 116]
  | 1 => [108, 111, 111, 107]
  | 2 => [102, 105, 108, 108]
  | 3 => [119, 114, 105, 116, 101]
  | 4 => [97, 112, 112, 108, 121]
  | 5 => [116, 105, 99, 107]
  | 6 => [99, 111, 108, 100]
  | _ => [119, 97, 114, 109]
theorem xk_fin : ∀ k : Fin 8, Int32.ofNat (xkL.getD k.val 0) = Int32.ofInt ((xkC k.val).length : Int) ∧ xkL.getD k.val 0 = (xkC k.val).length ∧ (xkC k.val).length ≤ 5 ∧ 1 ≤ (xkC k.val).length ∧ Int32.ofInt ((xkC k.val).length : Int) >>> (Int32.ofInt 0 &&& 31) = Int32.ofInt ((xkC k.val).length : Int) ∧ ∀ j : Fin 5, j.val < (xkC k.val).length → (xkB.getD k.val []).getD j.val 0 = Int32.ofInt ((xkC k.val).getD j.val 0) ∧ Int32.ofInt ((xkC k.val).getD j.val 0) &&& Int32.ofInt 255 = Int32.ofInt ((xkC k.val).getD j.val 0) ∧ ((Int32.ofInt ((xkC k.val).getD j.val 0)).toUInt32 % 65536).toInt32 = Int32.ofInt ((xkC k.val).getD j.val 0) ∧ narrow .char (.int (Int32.ofInt ((xkC k.val).getD j.val 0))) = .int (Int32.ofInt ((xkC k.val).getD j.val 0)) ∧ 97 ≤ (xkC k.val).getD j.val 0 ∧ (xkC k.val).getD j.val 0 ≤ 122 := by decide +kernel
section TX
variable {X : XS} {K : Kd} {pc : Nat} {L : List (Option AV)} {S : List AV} {h : AH} {b : Nat × Nat} {Q : Option AV → AH → Prop}
theorem wp_ldcX {k idx : Nat} (hk : k < 8) (hx : (xkI k).1 = idx) (hK : K.1.cls = RX4) (hd : decode K.2.1 pc = .ok (.ldc idx, 2)) (kk : Wp X K (pc + 2) L (vX (10 + k) :: S) h b Q) : Wp X K pc L S h b Q :=
  fun p l e R s m args below meth c D E A ad0 n0 Z C hz ad ca H locs cells slots ls hH hS hE hL hO hls hc hs => by
    have kw := kk p l e R s m args below meth c D E A ad0 n0 Z C hz ad ca H locs cells slots ls hH hS hE hL (okS_c (by exact trivial) hO) hls hc hs
    subst hx
    exact va_ldcS C.1 C.2.1 (own := RX4) (by rw [← hK]; exact C.2.2.2.1) (C.2.2.2.2.2.2.2.1.2.2.1 k hk) hd kw
theorem wp_gfV {k idx : Nat} (hk : k < 8) (hd : decode K.2.1 pc = .ok (.getfield idx, 3)) (hl : Cond.fieldLink K.1.cls idx "java/lang/String" "value" "[B" ∈ gdT) (kk : Wp X K (pc + 3) L (vX (20 + k) :: S) h b Q) : Wp X K pc L (vX (10 + k) :: S) h b Q :=
  fun p l e R s m args below meth c D E A ad0 n0 Z C hz ad ca H locs cells slots ls hH hS hE hL hO hls hc hs => by
    have kw := kk p l e R s m args below meth c D E A ad0 n0 Z C hz ad ca H locs cells slots ls hH hS hE hL (okS_c (by exact trivial) (okS_t hO)) hls hc hs
    exact vk_getf C.1 C.2.1 (C.2.2.2.2.2.2.2.1.2.2.2.1.1 k hk).2.2.1 hS C.2.2.2.1 (C.2.2.2.2.1 _ hl) (fun _ q => q) hd kw
theorem wp_gfC {k idx : Nat} (hk : k < 8) (hd : decode K.2.1 pc = .ok (.getfield idx, 3)) (hl : Cond.fieldLink K.1.cls idx "java/lang/String" "coder" "B" ∈ gdT) (kk : Wp X K (pc + 3) L (vI 0 :: S) h b Q) : Wp X K pc L (vX (10 + k) :: S) h b Q :=
  fun p l e R s m args below meth c D E A ad0 n0 Z C hz ad ca H locs cells slots ls hH hS hE hL hO hls hc hs => by
    have kw := kk p l e R s m args below meth c D E A ad0 n0 Z C hz ad ca H locs cells slots ls hH hS hE hL (okS_c (by exact trivial) (okS_t hO)) hls hc hs
    exact vk_getf C.1 C.2.1 (C.2.2.2.2.2.2.2.1.2.2.2.1.1 k hk).2.1 hS C.2.2.2.1 (C.2.2.2.2.1 _ hl) (fun _ q => q) hd kw
theorem wp_gsC {idx : Nat} (hd : decode K.2.1 pc = .ok (.getstatic idx, 3)) (hl : Cond.fieldLink K.1.cls idx "java/lang/String" "COMPACT_STRINGS" "Z" ∈ gdT) (kk : Wp X K (pc + 3) L (vI 1 :: S) h b Q) : Wp X K pc L S h b Q :=
  fun p l e R s m args below meth c D E A ad0 n0 Z C hz ad ca H locs cells slots ls hH hS hE hL hO hls hc hs => by
    have kw := kk p l e R s m args below meth c D E A ad0 n0 Z C hz ad ca H locs cells slots ls hH hS hE hL (okS_c (by exact trivial) hO) hls hc hs
    exact va_gets C.1 C.2.1 C.2.2.2.2.2.2.2.1.2.1 hS C.2.2.2.1 (C.2.2.2.2.1 _ hl) (fun _ q => q) hd kw
theorem wp_alX {k : Nat} (hk : k < 8) (hd : decode K.2.1 pc = .ok (.arraylength, 1)) (kk : Wp X K (pc + 1) L (vI ((xkC k).length : Int) :: S) h b Q) : Wp X K pc L (vX (20 + k) :: S) h b Q :=
  fun p l e R s m args below meth c D E A ad0 n0 Z C hz ad ca H locs cells slots ls hH hS hE hL hO hls hc hs => by
    have kw := kk p l e R s m args below meth c D E A ad0 n0 Z C hz ad ca H locs cells slots ls hH hS hE hL (okS_c (by exact trivial) (okS_t hO)) hls hc hs
    exact va_tlen C.1 C.2.1 (C.2.2.2.2.2.2.2.1.2.2.2.1.1 k hk).2.2.2 hS (xk_fin ⟨k, hk⟩).1 hd kw
theorem wp_bdX {k : Nat} {j : Int} (hk : k < 8) (hj : 0 ≤ j ∧ j < ((xkC k).length : Int)) (hd : decode K.2.1 pc = .ok (.baload, 1)) (kk : Wp X K (pc + 1) L (vI ((xkC k).getD j.toNat 0) :: S) h b Q) : Wp X K pc L (vI j :: vX (20 + k) :: S) h b Q :=
  fun p l e R s m args below meth c D E A ad0 n0 Z C hz ad ca H locs cells slots ls hH hS hE hL hO hls hc hs => by
    have kw := kk p l e R s m args below meth c D E A ad0 n0 Z C hz ad ca H locs cells slots ls hH hS hE hL (okS_c (by exact trivial) (okS_t (okS_t hO))) hls hc hs
    have f := xk_fin ⟨k, hk⟩
    have e2 : xkL.getD k 0 = (xkC k).length := f.2.1
    have e3 : (xkC k).length ≤ 5 := f.2.2.1
    obtain ⟨g1, g2⟩ := r32_in (n := xkL.getD k 0) hj.1 (by rw [e2]; exact hj.2) (by rw [e2]; omega)
    have ee : (Int32.ofInt j).toNatClampNeg = j.toNat := by omega
    have eb : (xkB.getD k []).getD j.toNat 0 = Int32.ofInt ((xkC k).getD j.toNat 0) := (f.2.2.2.2.2 ⟨j.toNat, by omega⟩ (by show j.toNat < (xkC k).length; omega)).1
    exact va_tb C.1 C.2.1 (C.2.2.2.2.2.2.2.1.2.2.2.1.1 k hk).2.2.2 hS g1 (v := .int (Int32.ofInt ((xkC k).getD j.toNat 0))) (by show Value.int ((xkB.getD k []).getD (Int32.ofInt j).toNatClampNeg 0) = _; rw [ee, eb]) hd kw
theorem C_coder {k : Nat} (hk : k < 8) (hQ : Q (some (vI 0)) h) : Cl X kJ0_coder_7d493 [vX (10 + k)] h Q := by
  refine cl_of rfl (Nat.le_of_ble_eq_true rfl) rfl ?_
  refine wp_gsC dJ0_coder_7d493_0 (tm4_0 (List.mem_of_getElem? (i := 3) rfl) rfl) ?_
  refine wp_if_eq 13 dJ0_coder_7d493_3 rfl ⟨by omega, by omega⟩ (fun c => absurd c (by omega)) (fun _ => ?_)
  refine wp_aload_n dJ0_coder_7d493_6 rfl ?_
  refine wp_gfC hk dJ0_coder_7d493_7 (tm6_13 (List.mem_of_getElem? (i := 10) rfl) rfl) ?_
  refine wp_goto 14 dJ0_coder_7d493_10 rfl ?_
  exact wp_nret dJ0_coder_7d493_14 rfl rfl hQ
theorem C_isLatin {k : Nat} (hk : k < 8) (hQ : Q (some (vI 1)) h) : Cl X kJ0_isLatin1_aae02 [vX (10 + k)] h Q := by
  refine cl_of rfl (Nat.le_of_ble_eq_true rfl) rfl ?_
  refine wp_gsC dJ0_isLatin1_aae02_0 (tm4_0 (List.mem_of_getElem? (i := 3) rfl) rfl) ?_
  refine wp_if_eq 17 dJ0_isLatin1_aae02_3 rfl ⟨by omega, by omega⟩ (fun c => absurd c (by omega)) (fun _ => ?_)
  refine wp_aload_n dJ0_isLatin1_aae02_6 rfl ?_
  refine wp_gfC hk dJ0_isLatin1_aae02_7 (tm6_13 (List.mem_of_getElem? (i := 10) rfl) rfl) ?_
  refine wp_if_ne 17 dJ0_isLatin1_aae02_10 rfl ⟨by omega, by omega⟩ (fun c => absurd rfl c) (fun _ => ?_)
  refine wp_iconst dJ0_isLatin1_aae02_13 ?_
  refine wp_goto 18 dJ0_isLatin1_aae02_14 rfl ?_
  exact wp_zret dJ0_isLatin1_aae02_18 rfl (Or.inr rfl) hQ
theorem C_strlen {k : Nat} (hk : k < 8) (hQ : Q (some (vI ((xkC k).length : Int))) h) : Cl X kJ0_length_8abf5 [vX (10 + k)] h Q := by
  refine cl_of rfl (Nat.le_of_ble_eq_true rfl) rfl ?_
  refine wp_aload_n dJ0_length_8abf5_0 rfl ?_
  refine wp_gfV hk dJ0_length_8abf5_1 (tm6_13 (List.mem_of_getElem? (i := 9) rfl) rfl) ?_
  refine wp_alX hk dJ0_length_8abf5_4 ?_
  refine wp_aload_n dJ0_length_8abf5_5 rfl ?_
  refine wp_invt (K' := kJ0_coder_7d493) (As := []) (b' := (0, 0)) rfl hk dJ0_length_8abf5_6 mJ0_coder_7d493 iJ0_coder_7d493 vJ0_coder_7d493 lJ0_335 rfl (rq0 rfl rfl) (Nat.le_of_ble_eq_true rfl) rfl (C_coder hk ?_)
  dsimp only [pushR]
  refine wp_ishr dJ0_length_8abf5_9 (xk_fin ⟨k, hk⟩).2.2.2.2.1 ?_
  exact wp_iret dJ0_length_8abf5_10 rfl hQ
-- the check of an index
theorem XF.narrow {E : Nat → Nat} {A B : Nat → Prop} {s : State} {H : Heap} (h : XF X E A s H) (hAB : ∀ q, B q → A q) : XF X E B s H :=
  ⟨fun j hj => ⟨(h.1 j hj).1.narrow hAB, (h.1 j hj).2.narrow hAB⟩, h.2.1.narrow hAB, h.2.2.1, h.2.2.2.1.narrow hAB, h.2.2.2.2.1.narrow hAB, h.2.2.2.2.2.1.narrow hAB, h.2.2.2.2.2.2⟩
theorem XF.reE {E E' : Nat → Nat} {A : Nat → Prop} {s : State} {H : Heap} (hE : ∀ j, j ≤ 30 → E' j = E j) (h : XF X E A s H) : XF X E' A s H :=
  ⟨fun j hj => by rw [hE j (by omega)]; exact h.1 j hj, h.2.1, fun k hk => by rw [hE (10 + k) (by omega)]; exact h.2.2.1 k hk,
   ⟨fun i hi => by have q := h.2.2.2.1.1 i hi; dsimp only at q ⊢; rw [hE (10 + i) (by omega), hE (20 + i) (by omega)]; exact q, fun i j hi hj e => h.2.2.2.1.2 i j hi hj (by dsimp only at e ⊢; rw [hE (10 + i) (by omega), hE (10 + j) (by omega)] at e; exact e)⟩,
   by rw [hE 30 (by omega)]; exact h.2.2.2.2.1, h.2.2.2.2.2.1, h.2.2.2.2.2.2⟩
theorem C_chk3 {i n : Int} {v3 : AV} (hv : entL [vI i, vI n, v3] 3 = [some (vI i), some (vI n), some v3]) (hvl : (entA [vI i, vI n, v3]).length ≤ 3) (hi : 0 ≤ i ∧ i < n) (hn : r32 n) (hQ : Q (some (vI i)) h) : Cl X kJ3_checkIndex_8e157 [vI i, vI n, v3] h Q := by
  refine cl_of rfl hvl hv ?_
  refine wp_iload_n dJ3_checkIndex_8e157_0 rfl ?_
  refine wp_if_lt 9 dJ3_checkIndex_8e157_1 rfl (by unfold r32 at *; omega) (fun c => absurd c (by omega)) (fun _ => ?_)
  refine wp_iload_n dJ3_checkIndex_8e157_4 rfl ?_
  refine wp_iload_n dJ3_checkIndex_8e157_5 rfl ?_
  refine wp_icmp_lt 16 dJ3_checkIndex_8e157_6 rfl (by unfold r32 at *; omega) hn (fun _ => ?_) (fun c => absurd hi.2 c)
  refine wp_iload_n dJ3_checkIndex_8e157_16 rfl ?_
  exact wp_iret dJ3_checkIndex_8e157_17 rfl hQ
theorem wp_chk {i n : Int} {b : Nat × Nat} (hi : 0 ≤ i ∧ i < n) (hn : r32 n) (hQ : Q none h) : Wp X kJ0_checkIndex_df160 2 [some (vI i), some (vI n)] [vI n, vI i] h b Q :=
  fun p l e R s m args below meth c D E A ad0 n0 Z C hz ad ca H locs cells slots ls hH hS hE hL hO hls hc hs => by
    have key : ∀ (v : Value) (v3 : AV) (E' : Nat → Nat), va_Z "jdk/internal/util/Preconditions" "SIOOBE_FORMATTER" "Ljava/util/function/BiFunction;" v A s s.heap → cvV E' ad v3 = v → (∀ j, j ≤ 30 → E' j = E j) → okV 0 v3 → entL [vI i, vI n, v3] 3 = [some (vI i), some (vI n), some v3] → (entA [vI i, vI n, v3]).length ≤ 3 →
        W p l e R s m args below meth c H locs cells slots Z (F0 m 2 ls ([vI n, vI i].map (cvV E ad))) := by
      intro v v3 E' hZ hv hE' hok3 hen hel
      refine va_gets C.1 C.2.1 hZ hS C.2.2.2.1 (C.2.2.2.2.1 _ (tm4_1 (List.mem_of_getElem? (i := 3) rfl) rfl)) (fun _ q => q) dJ0_checkIndex_df160_2 ?_
      intro T hT X0
      have fr := C.2.2.2.2.2.2.2.2.2.1
      have lo := C.2.2.2.2.2.2.2.2.2.2
      have hm := mJ3_checkIndex_8e157
      have hcl : Cl X kJ3_checkIndex_8e157 [vI i, vI n, v3] [] (fun r _ => r = some (vI i)) := C_chk3 hen hel hi hn rfl
      have hpre : ∀ U : State, U.heap = H → s.WarmedH U.vm → PcK X D E' (fun q => H.size ≤ q) ad ca [vI i, vI n, v3] [] ([vI i, vI n, v3].map (cvV E' ad)).toArray U := fun U hU hW =>
        ⟨rfl, ⟨fun k q hk => by (first | cases hk | simp [wsO] at hk), ⟨fun i j p q hp => by (first | cases hp | simp [wsO] at hp), fun k q hk => by (first | cases hk | simp [wsO] at hk)⟩, fun i c ty hi => by (first | cases hi | simp at hi), fun c hc => by cases hc⟩, fun u hu => by
            rcases List.mem_cons.mp hu with e | hu
            · rw [e]; trivial
            · rcases List.mem_cons.mp hu with e | hu
              · rw [e]; trivial
              · rw [List.mem_singleton.mp hu]; exact hok3, va_K.moved hW.alike C.2.2.2.2.2.2.1, by
            rw [hU]
            exact (((C.2.2.2.2.2.2.2.1.kept hS.2.1).moved hW).reE hE').narrow (fun q hq => C.2.2.2.2.2.2.2.2.1 q (Nat.le_trans hS.1 hq)), fun q hq => by rw [hU] at hq; exact hq⟩
      obtain ⟨m1, m2, m3, m4⟩ : RMK kJ0_checkIndex_df160 kJ3_checkIndex_8e157 b b := rq0 rfl rfl
      obtain ⟨v', st₀, t, T', Lc, h0, X', hLc, e1, e2, ⟨⟨r, h', ad', ca', hq, ho, hH', hEx, hok⟩, hF⟩, st⟩ :=
        va_runS (As := [vI i, vI n, v3].map (cvV E' ad)) (rest := []) (n := 3) (H := H) (g := F0 m 5 ls (v :: [vI n, vI i].map (cvV E ad))) (cells := cells) (slots := slots) ⟨C.1, C.2.1, C.2.2.1, C.2.2.2.1, C.2.2.2.2.1⟩ (hcl l D E' (fun q => H.size ≤ q) ad ca) ⟨callB_of 3 C.2.2.2.2.1 (wsK_good hm) rfl rfl rfl (C.2.2.2.2.1 _ hm.2.1) (C.2.2.2.2.1 _ lJ0_1059) hm.2.2 ⟨Nat.le_trans m1 fr, Nat.le_trans m2 lo⟩, C.2.2.2.2.1 _ sJ3_checkIndex_8e157⟩ ⟨Pc_blind, hpre⟩ rfl rfl hls.1.1 (by rw [← hv]; rfl) (Nat.le_of_ble_eq_true rfl) dJ0_checkIndex_df160_5 ⟨by show _ + 0 ≤ _; omega, by show _ + 0 ≤ _; omega⟩ T hT X0
      cases ho
      subst hq
      have hh : ∀ q, q < H.size → T'.heap[q]? = H[q]? := fun q hq => by rw [e1, hF.2 q (by rw [h0]; exact hq) (by omega), h0]
      have hz1 : H.size ≤ T'.heap.size := by rw [e1]; have := hF.1; rw [h0] at this; exact this
      have hH1 : Hl D E A s ad ca h T'.heap := ⟨hH.1.kept (fun k q hk => hh q.1 (hH.1 k q hk).lt), hH.2.1, hH.2.2.1, hH.2.2.2⟩
      have hS1 : va_S A s.heap T'.heap (locs ++ Lc) := ⟨Nat.le_trans hS.1 hz1, fun q h1 h2 => by rw [hh q (Nat.lt_of_lt_of_le h1 hS.1)]; exact hS.2.1 q h1 h2, fun q hq => by
        rcases List.mem_append.mp hq with g | g
        · exact hS.2.2 q g
        · exact C.2.2.2.2.2.2.2.2.1 _ (Nat.le_trans hS.1 (hLc q g))⟩
      have kk : Wp X kJ0_checkIndex_df160 8 [some (vI i), some (vI n)] [vI i] h b Q := wp_pop dJ0_checkIndex_df160_8 rfl (wp_ret dJ0_checkIndex_df160_9 rfl hQ)
      have kw := kk p l e R s m args below meth c D E A ad0 n0 Z C hz ad ca T'.heap (locs ++ Lc) (cells + 0) (slots + 0) ls hH1 hS1 hE hL (okS_c (by exact trivial) (fun _ q => by cases q)) hls (by omega) (by omega)
      obtain ⟨t2, a1, b1⟩ := kw T' rfl X'
      exact ⟨t2, st t2 a1, b1⟩
    rcases C.2.2.2.2.2.2.2.1.2.2.2.2.2.1 with hZ | ⟨t, hZ⟩
    · exact key _ vN E hZ rfl (fun _ _ => rfl) trivial rfl (Nat.le_of_ble_eq_true rfl)
    · exact key _ (vX 99) (fun j => if j = 99 then t else E j) hZ rfl (fun j hj => if_neg (by omega)) trivial rfl (Nat.le_of_ble_eq_true rfl)
theorem C_chk {i n : Int} (hi : 0 ≤ i ∧ i < n) (hn : r32 n) (hQ : Q none h) : Cl X kJ0_checkIndex_df160 [vI i, vI n] h Q := by
  refine cl_of rfl (Nat.le_of_ble_eq_true rfl) rfl ?_
  refine wp_iload_n dJ0_checkIndex_df160_0 rfl ?_
  refine wp_iload_n dJ0_checkIndex_df160_1 rfl ?_
  exact wp_chk hi hn hQ
theorem C_latinAt {k : Nat} {j : Int} (hk : k < 8) (hj : 0 ≤ j ∧ j < ((xkC k).length : Int)) (hQ : Q (some (vI ((xkC k).getD j.toNat 0))) h) : Cl X kJ1_charAt_3b067 [vX (20 + k), vI j] h Q := by
  refine cl_of rfl (Nat.le_of_ble_eq_true rfl) rfl ?_
  have f := xk_fin ⟨k, hk⟩
  have e3 : (xkC k).length ≤ 5 := f.2.2.1
  have fj := f.2.2.2.2.2 ⟨j.toNat, by omega⟩ (by show j.toNat < (xkC k).length; omega)
  refine wp_iload_n dJ1_charAt_3b067_0 rfl ?_
  refine wp_aload_n dJ1_charAt_3b067_1 rfl ?_
  refine wp_alX hk dJ1_charAt_3b067_2 ?_
  refine wp_is2 dJ1_charAt_3b067_3 SJ0_checkIndex_df160 lJ1_9 (rq0 rfl rfl) (Nat.le_of_ble_eq_true rfl) (C_chk hj (by unfold r32; omega) ?_)
  dsimp only [pushR]
  refine wp_aload_n dJ1_charAt_3b067_6 rfl ?_
  refine wp_iload_n dJ1_charAt_3b067_7 rfl ?_
  refine wp_bdX hk hj dJ1_charAt_3b067_8 ?_
  refine wp_sipush dJ1_charAt_3b067_9 rfl ?_
  refine wp_iand dJ1_charAt_3b067_12 fj.2.1 ?_
  refine wp_i2c dJ1_charAt_3b067_13 fj.2.2.1 ?_
  exact wp_nret dJ1_charAt_3b067_14 rfl fj.2.2.2.1 hQ
theorem C_charAt {k : Nat} {j : Int} (hk : k < 8) (hj : 0 ≤ j ∧ j < ((xkC k).length : Int)) (hQ : Q (some (vI ((xkC k).getD j.toNat 0))) h) : Cl X kJ0_charAt_5068e [vX (10 + k), vI j] h Q := by
  refine cl_of rfl (Nat.le_of_ble_eq_true rfl) rfl ?_
  have f := xk_fin ⟨k, hk⟩
  have e3 : (xkC k).length ≤ 5 := f.2.2.1
  have fj := f.2.2.2.2.2 ⟨j.toNat, by omega⟩ (by show j.toNat < (xkC k).length; omega)
  refine wp_aload_n dJ0_charAt_5068e_0 rfl ?_
  refine wp_invt (K' := kJ0_isLatin1_aae02) (As := []) (b' := (0, 0)) rfl hk dJ0_charAt_5068e_1 mJ0_isLatin1_aae02 iJ0_isLatin1_aae02 vJ0_isLatin1_aae02 lJ0_492 rfl (rq0 rfl rfl) (Nat.le_of_ble_eq_true rfl) rfl (C_isLatin hk ?_)
  dsimp only [pushR]
  refine wp_if_eq 16 dJ0_charAt_5068e_4 rfl ⟨by omega, by omega⟩ (fun c => absurd c (by omega)) (fun _ => ?_)
  refine wp_aload_n dJ0_charAt_5068e_7 rfl ?_
  refine wp_gfV hk dJ0_charAt_5068e_8 (tm6_13 (List.mem_of_getElem? (i := 9) rfl) rfl) ?_
  refine wp_iload_n dJ0_charAt_5068e_11 rfl ?_
  refine wp_is2 dJ0_charAt_5068e_12 SJ1_charAt_3b067 lJ0_495 (rq0 rfl rfl) (Nat.le_of_ble_eq_true rfl) (C_latinAt hk hj ?_)
  dsimp only [pushR]
  exact wp_nret dJ0_charAt_5068e_15 rfl fj.2.2.2.1 hQ
end TX
