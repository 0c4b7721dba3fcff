/-! the class' History: what is kept, step by step -/
theorem wA_int : Cond.arrayClass .int ∈ gdT := tm1_2 (List.mem_of_getElem? (i := 14) rfl) rfl
theorem wA_long : Cond.arrayClass .long ∈ gdT := tm1_8 (List.mem_of_getElem? (i := 13) rfl) rfl
theorem wA_boolean : Cond.arrayClass .boolean ∈ gdT := tm5_4 (List.mem_of_getElem? (i := 8) rfl) rfl
section HS
variable {X : XS} {K : Kd} {pc : Nat} {L : List (Option AV)} {S : List AV} {h : AH} {b b0 : Nat × Nat} {Q : Option AV → AH → Prop} {g o : Int → Int}
theorem wp_aav {i t n j' : Nat} {f : Int → Option Nat} {j : Int} (hd : decode K.2.1 pc = .ok (.aaload, 1)) (hi : h[i]? = some (oR t n f)) (hn : n < 2147483648) (h0 : 0 ≤ j ∧ j < n) (hv : f j = some j') (kk : Wp X K (pc + 1) L (vR j' :: S) h b Q) : Wp X K pc L (vI j :: vR i :: S) h b Q := wp_aald hd hi hn h0.1 h0.2 (by rw [hv]; exact kk)
theorem wp_aan {i t n : Nat} {f : Int → Option Nat} {j : Int} (hd : decode K.2.1 pc = .ok (.aaload, 1)) (hi : h[i]? = some (oR t n f)) (hn : n < 2147483648) (h0 : 0 ≤ j ∧ j < n) (hv : f j = none) (kk : Wp X K (pc + 1) L (vN :: S) h b Q) : Wp X K pc L (vI j :: vR i :: S) h b Q := wp_aald hd hi hn h0.1 h0.2 (by rw [hv]; exact kk)
theorem ga_lt {i : Nat} {c z : AC} (hk : h[i]? = some c) : (h ++ [z])[i]? = some c := by rw [List.getElem?_append_left (gs_lt hk)]; exact hk
theorem ga_eq {z : AC} : (h ++ [z])[h.length]? = some z := by simp
theorem ga_l {i : Nat} {z : AC} (hk : i < h.length) : i < (h ++ [z]).length := by simp; omega
theorem udO_eq {f : Int → Option Nat} {j : Int} {x : Option Nat} : udO f j x j = x := if_pos rfl
theorem udO_ne {f : Int → Option Nat} {j k : Int} {x : Option Nat} (e : k ≠ j) : udO f j x k = f k := if_neg e
theorem udO_same {f : Int → Option Nat} {j : Int} {x : Option Nat} (e : f j = x) : udO f j x = f := by
  funext k
  unfold udO
  split
  · rename_i q; rw [q, e]
  · rfl
theorem cp_same {f t : Int → Int} (hf : SmZ f) (ht : SmZ t) : cpI f t 0 0 1060 = f := by
  funext k
  unfold cpI
  split
  · rw [show (0 : Int) + (k - 0) = k by omega]
  · rw [ht k (by omega), hf k (by omega)]
def udR (rw_ : Int → Int → Int) (i : Int) (g : Int → Int) : Int → Int → Int := fun j => if j = i then g else rw_ j
theorem wp_min {x y : Int} {idx : Nat} (hd : decode K.2.1 pc = .ok (.invokestatic idx, 3)) (hl : Cond.methodLink K.1.cls idx yJ9_min_7cf53 ∈ gdT) (hx : r32 x) (hy : r32 y) (hfr : 1 ≤ K.2.2.2.2.1.1) (hlo : catS S + 13 ≤ K.2.2.2.2.1.2) (k : Wp X K (pc + 3) L (vI (if x ≤ y then x else y) :: S) h b Q) : Wp X K pc L (vI y :: vI x :: S) h b Q :=
  fun p l e R s m args below meth c D E A ad0 n0 Z C hz ad ca H locs cells slots ls hH hS hE hL hO hls hc hs => by
    have ee : (if Int32.ofInt y < Int32.ofInt x then Int32.ofInt y else Int32.ofInt x) = Int32.ofInt (if x ≤ y then x else y) := by
      by_cases c : x ≤ y
      · rw [if_pos c, if_neg (fun q => by have := (r32_lt hy hx).mp q; omega)]
      · rw [if_neg c, if_pos ((r32_lt hy hx).mpr (by omega))]
    refine va_mmin C.1 C.2.1 (C.2.2.1.trans hls.1.1.symm) C.2.2.2.1 (C.2.2.2.2.1 _ hl) (C.2.2.2.2.1 _ sJ9_min_7cf53) (C.2.2.2.2.1 _ mJ9_min_7cf53.2.1) (C.2.2.2.2.1 _ mJ9_min_7cf53.1) (Nat.le_trans hfr C.2.2.2.2.2.2.2.2.2.1) (by
      rw [catS_ok]
      have := C.2.2.2.2.2.2.2.2.2.2
      omega) (by omega) (by omega) hd ?_
    rw [ee]
    exact k p l e R s m args below meth c D E A ad0 n0 Z C hz ad ca H locs cells slots ls hH hS hE hL (okS_c (by exact trivial) (okS_t (okS_t hO))) hls hc hs
theorem wp_max {x y : Int} {idx : Nat} (hd : decode K.2.1 pc = .ok (.invokestatic idx, 3)) (hl : Cond.methodLink K.1.cls idx yJ9_max_7cf53 ∈ gdT) (hx : r32 x) (hy : r32 y) (hfr : 1 ≤ K.2.2.2.2.1.1) (hlo : catS S + 13 ≤ K.2.2.2.2.1.2) (k : Wp X K (pc + 3) L (vI (if x < y then y else x) :: S) h b Q) : Wp X K pc L (vI y :: vI x :: S) h b Q :=
  fun p l e R s m args below meth c D E A ad0 n0 Z C hz ad ca H locs cells slots ls hH hS hE hL hO hls hc hs => by
    have ee : (if Int32.ofInt x < Int32.ofInt y then Int32.ofInt y else Int32.ofInt x) = Int32.ofInt (if x < y then y else x) := by
      by_cases c : x < y
      · rw [if_pos c, if_pos ((r32_lt hx hy).mpr c)]
      · rw [if_neg c, if_neg (fun q => c ((r32_lt hx hy).mp q))]
    refine va_mmax C.1 C.2.1 (C.2.2.1.trans hls.1.1.symm) C.2.2.2.1 (C.2.2.2.2.1 _ hl) (C.2.2.2.2.1 _ sJ9_max_7cf53) (C.2.2.2.2.1 _ mJ9_max_7cf53.2.1) (C.2.2.2.2.1 _ mJ9_max_7cf53.1) (Nat.le_trans hfr C.2.2.2.2.2.2.2.2.2.1) (by
      rw [catS_ok]
      have := C.2.2.2.2.2.2.2.2.2.2
      omega) (by omega) (by omega) hd ?_
    rw [ee]
    exact k p l e R s m args below meth c D E A ad0 n0 Z C hz ad ca H locs cells slots ls hH hS hE hL (okS_c (by exact trivial) (okS_t (okS_t hO))) hls hc hs

/-- behind keepHere: the present row stands at the slot -/
def KP (h h' : AH) (hr : Int) (sl sl' : Int → Option Nat) (g : Int → Int) : Prop := ∃ s, sl' = udO sl hr (some s) ∧ h'[s]? = some (oI 1060 g) ∧ h'[6]? = some (oR 1 31 sl') ∧ (sl hr = some s ∧ h'.length = h.length ∨ sl hr = none ∧ s = h.length ∧ h'.length = h.length + 1) ∧ ∀ i, i ≠ 6 → i ≠ s → i < h.length → h'[i]? = h[i]?
theorem sx_keep {hr bh ah : Int} {sl : Int → Option Nat} {s : Nat} (hS : SA 5 1 2 h) (h5 : h[5]? = some (oO 0 [vR 6, vI hr, vI bh, vI ah])) (h6 : h[6]? = some (oR 1 31 sl)) (h2 : h[2]? = some (oI 1060 g)) (hr0 : 0 ≤ hr ∧ hr < 31) (hs : sl hr = some s) (hs2 : s ≠ 2) (ho : h[s]? = some (oI 1060 o)) (hQ : Q none (h.set s (oI 1060 (cpI g o 0 0 1060)))) : Wp X kX0_keepHere 26 [some (vR 5), some (vR 1)] [] h b Q := by
  refine wp_aload_n dX0_keepHere_26 rfl ?_
  refine wp_aload_n dX0_keepHere_27 rfl ?_
  refine wp_getf dX0_keepHere_28 fX0_13 h5 rfl ?_
  refine wp_aload_n dX0_keepHere_31 rfl ?_
  refine wp_getf dX0_keepHere_32 fX0_28 h5 rfl ?_
  refine wp_aav dX0_keepHere_35 h6 (by decide) hr0 hs ?_
  obtain ⟨q0, q1, fs, q2, q3⟩ := id hS
  refine wp_iv1 dX0_keepHere_36 VX5_copyTo lX0_39 q2 (rq0 rfl rfl) (Nat.le_of_ble_eq_true rfl) (sa_of h2 (C_wcopyTo hS (gs_ne (Ne.symm hs2) ho) ?_))
  dsimp only [pushR]
  rw [set_same h2]
  exact wp_ret dX0_keepHere_39 rfl hQ
set_option maxHeartbeats 1000000 in
theorem C_keepHere {hr bh ah : Int} {sl : Int → Option Nat} (hS : SA 5 1 2 h) (h5 : h[5]? = some (oO 0 [vR 6, vI hr, vI bh, vI ah])) (h6 : h[6]? = some (oR 1 31 sl)) (h2 : h[2]? = some (oI 1060 g)) (hr0 : 0 ≤ hr ∧ hr < 31) (hg : SmZ g) (ho : ∀ s, sl hr = some s → s ≠ 2 ∧ s ≠ 6 ∧ ∃ o, h[s]? = some (oI 1060 o) ∧ SmZ o)
    (hQ : ∀ h' sl', KP h h' hr sl sl' g → Q none h') : Cl X kX0_keepHere [vR 5, vR 1] h Q := by
  refine cl_of rfl (Nat.le_of_ble_eq_true rfl) rfl ?_
  refine wp_aload_n dX0_keepHere_0 rfl ?_
  refine wp_getf dX0_keepHere_1 fX0_13 h5 rfl ?_
  refine wp_aload_n dX0_keepHere_4 rfl ?_
  refine wp_getf dX0_keepHere_5 fX0_28 h5 rfl ?_
  cases hs : sl hr with
  | some s =>
    obtain ⟨s2, s6, o, o1, o2⟩ := ho s hs
    refine wp_aav dX0_keepHere_8 h6 (by decide) hr0 hs ?_
    refine wp_nonnull 26 dX0_keepHere_9 rfl ?_
    refine sx_keep hS h5 h6 h2 hr0 hs s2 o1 ?_
    rw [cp_same hg o2]
    refine hQ _ sl ⟨s, (udO_same hs).symm, gs_eq (gs_lt o1), gs_ne s6 h6, Or.inl ⟨hs, List.length_set⟩, fun i a1 a2 a3 => List.getElem?_set_ne (Ne.symm a2)⟩
  | none =>
    refine wp_aan dX0_keepHere_8 h6 (by decide) hr0 hs ?_
    refine wp_nonnullN dX0_keepHere_9 ?_
    refine wp_aload_n dX0_keepHere_12 rfl ?_
    refine wp_getf dX0_keepHere_13 fX0_13 h5 rfl ?_
    refine wp_aload_n dX0_keepHere_16 rfl ?_
    refine wp_getf dX0_keepHere_17 fX0_28 h5 rfl ?_
    refine wp_sipush dX0_keepHere_20 rfl ?_
    refine wp_newi (N := 1060) (b0 := (0, 0)) dX0_keepHere_23 wA_int rfl (by decide) (by decide) (by decide) ?_
    have hlen := gs_lt h6
    have hl2 := gs_lt h2
    have hl5 := gs_lt h5
    refine wp_astA dX0_keepHere_25 (ga_lt h6) ga_eq (by decide) hr0.1 hr0.2 ?_
    obtain ⟨q0, q1, fs, q2, q3⟩ := id hS
    have k1 : ((h ++ [oI 1060 fun _ => 0]).set 6 (oR 1 31 (udO sl hr (some h.length))))[1]? = some (oO 5 fs) := gs_ne (by decide) (ga_lt q2)
    have k2 : ((h ++ [oI 1060 fun _ => 0]).set 6 (oR 1 31 (udO sl hr (some h.length))))[2]? = some (oI 1060 g) := gs_ne (by decide) (ga_lt h2)
    have kn : ((h ++ [oI 1060 fun _ => 0]).set 6 (oR 1 31 (udO sl hr (some h.length))))[h.length]? = some (oI 1060 fun _ => 0) := gs_ne (by omega) ga_eq
    have k6 : ((h ++ [oI 1060 fun _ => 0]).set 6 (oR 1 31 (udO sl hr (some h.length))))[6]? = some (oR 1 31 (udO sl hr (some h.length))) := gs_eq (ga_l hlen)
    refine sx_keep (sa_mk (by decide) k1 q3 k2) (gs_ne (by decide) (ga_lt h5)) k6 k2 hr0 udO_eq (by omega) kn ?_
    rw [cp_same hg (fun _ _ => rfl)]
    refine hQ _ _ ⟨h.length, rfl, gs_eq (gs_lt kn), gs_ne (by omega) k6, Or.inr ⟨hs, rfl, by simp⟩, fun i a1 a2 a3 => ?_⟩
    rw [List.getElem?_set_ne (Ne.symm a2), List.getElem?_set_ne (Ne.symm a1), List.getElem?_append_left a3]
/-- the history, as the heap holds it -/
def HH (h : AH) (hr bh ah : Int) (sl : Int → Option Nat) (rw_ : Int → Int → Int) : Prop :=
  h[5]? = some (oO 0 [vR 6, vI hr, vI bh, vI ah]) ∧ h[6]? = some (oR 1 31 sl) ∧ (0 ≤ hr ∧ hr < 31 ∧ 0 ≤ bh ∧ 0 ≤ ah ∧ bh + ah ≤ 30) ∧
  (∀ i, 0 ≤ i ∧ i < 31 → ∀ s, sl i = some s → (s = 7 ∨ 70 ≤ s) ∧ h[s]? = some (oI 1060 (rw_ i)) ∧ SmZ (rw_ i)) ∧
  (∀ i j, 0 ≤ i ∧ i < 31 → 0 ≤ j ∧ j < 31 → ∀ s, sl i = some s → sl j = some s → i = j) ∧ (∀ d, -bh ≤ d ∧ d ≤ ah → ∃ s, sl ((hr + d) % 31) = some s)
/-- a history whose fields have changed, kept anew -/
theorem HH.kp {hr bh ah hr' bh' ah' : Int} {sl sl' : Int → Option Nat} {rw_ : Int → Int → Int} {h1 h' : AH} (H : HH h hr bh ah sl rw_) (e5 : h1[5]? = some (oO 0 [vR 6, vI hr', vI bh', vI ah'])) (el : h1.length = h.length) (e1 : ∀ i, i ≠ 5 → h1[i]? = h[i]?) (hb : 0 ≤ hr' ∧ hr' < 31 ∧ 0 ≤ bh' ∧ 0 ≤ ah' ∧ bh' + ah' ≤ 30) (hlen : h.length = 7 ∨ 70 ≤ h.length) (hg : SmZ g)
    (hd : ∀ d, -bh' ≤ d ∧ d ≤ ah' → (hr' + d) % 31 = hr' ∨ ∃ s, sl ((hr' + d) % 31) = some s) (k : KP h1 h' hr' sl sl' g) : HH h' hr' bh' ah' sl' (udR rw_ hr' g) := by
  obtain ⟨s, k1, k2, k3, k4, k5⟩ := k
  obtain ⟨H1, H2, H3, H4, H5, H6⟩ := H
  have hl5 := gs_lt e5
  have hs : s = 7 ∨ 70 ≤ s := by
    rcases k4 with ⟨q, -⟩ | ⟨-, q, -⟩
    · exact (H4 hr' ⟨hb.1, hb.2.1⟩ s q).1
    · omega
  have hfree : ∀ i, 0 ≤ i ∧ i < 31 → i ≠ hr' → ∀ z, sl i = some z → z ≠ s := fun i hi hne z hz e => by
    subst e
    rcases k4 with ⟨q, -⟩ | ⟨-, q, -⟩
    · exact hne (H5 i hr' hi ⟨hb.1, hb.2.1⟩ z hz q)
    · have := gs_lt (H4 i hi z hz).2.1
      omega
  refine ⟨?_, k3, hb, fun i hi z hz => ?_, fun i j hi hj z hz1 hz2 => ?_, fun d hd' => ?_⟩
  · rw [k5 5 (by decide) (by omega) hl5]; exact e5
  · rw [k1] at hz
    unfold udR
    rcases Decidable.em (i = hr') with e | e
    · subst e
      rw [udO_eq] at hz
      cases hz
      rw [if_pos rfl]
      exact ⟨hs, k2, hg⟩
    · rw [udO_ne e] at hz
      rw [if_neg e]
      have q := H4 i hi z hz
      have := gs_lt q.2.1
      refine ⟨q.1, ?_, q.2.2⟩
      rw [k5 z (by omega) (hfree i hi e z hz) (by omega), e1 z (by omega)]
      exact q.2.1
  · rw [k1] at hz1 hz2
    rcases Decidable.em (i = hr') with e | e <;> rcases Decidable.em (j = hr') with e' | e'
    · omega
    · subst e
      rw [udO_eq] at hz1
      rw [udO_ne e'] at hz2
      cases hz1
      exact absurd rfl (hfree j hj e' _ hz2)
    · subst e'
      rw [udO_eq] at hz2
      rw [udO_ne e] at hz1
      cases hz2
      exact absurd rfl (hfree i hi e _ hz1)
    · rw [udO_ne e] at hz1
      rw [udO_ne e'] at hz2
      exact H5 i j hi hj z hz1 hz2
  · rw [k1]
    rcases Decidable.em ((hr' + d) % 31 = hr') with e | e
    · rw [e]; exact ⟨s, udO_eq⟩
    · rw [udO_ne e]
      exact (hd d hd').resolve_left e
/-- what a step of the history leaves as it was: all below 70 but 5, 6, 7, and what is no slot -/
def FH (h h' : AH) (sl sl' : Int → Option Nat) : Prop := h.length ≤ h'.length ∧ (∀ i, i ≠ 5 → i ≠ 6 → i ≠ 7 → i < 70 → i < h.length → h'[i]? = h[i]?) ∧ (∀ i, i < h.length → (∀ j, 0 ≤ j ∧ j < 31 → sl j ≠ some i) → i ≠ 5 → i ≠ 6 → h'[i]? = h[i]?) ∧ ∀ j s, 0 ≤ j ∧ j < 31 → sl' j = some s → sl j = some s ∨ h.length ≤ s
theorem FH.kp {hr bh ah hr' : Int} {sl sl' : Int → Option Nat} {rw_ : Int → Int → Int} {h1 h' : AH} (H : HH h hr bh ah sl rw_) (el : h1.length = h.length) (e1 : ∀ i, i ≠ 5 → h1[i]? = h[i]?) (hb : 0 ≤ hr' ∧ hr' < 31) (k : KP h1 h' hr' sl sl' g) : FH h h' sl sl' := by
  obtain ⟨s, k1, k2, k3, k4, k5⟩ := k
  obtain ⟨H1, H2, H3, H4, H5, H6⟩ := H
  refine ⟨by omega, fun i a1 a2 a3 a4 a5 => ?_, fun i a1 a2 a3 a4 => ?_, fun j z hj hz => ?_⟩
  · rw [k5 i a2 (fun e => ?_) (by omega), e1 i a1]
    subst e
    rcases k4 with ⟨q, -⟩ | ⟨-, q, -⟩
    · have := (H4 hr' hb i q).1
      omega
    · omega
  · rw [k5 i a4 (fun e => ?_) (by omega), e1 i a3]
    subst e
    rcases k4 with ⟨q, -⟩ | ⟨-, q, -⟩
    · exact a2 hr' hb q
    · omega
  · rw [k1] at hz
    rcases Decidable.em (j = hr') with e | e
    · subst e
      rw [udO_eq] at hz
      cases hz
      rcases k4 with ⟨q, -⟩ | ⟨-, q, -⟩
      · exact Or.inl q
      · exact Or.inr (by omega)
    · rw [udO_ne e] at hz
      exact Or.inl hz
set_option maxHeartbeats 1000000 in
theorem C_note {hr bh ah : Int} {sl : Int → Option Nat} {rw_ : Int → Int → Int} (H : HH h hr bh ah sl rw_) (hS : SA 5 1 2 h) (h2 : h[2]? = some (oI 1060 g)) (hg : SmZ g) (hlen : h.length = 7 ∨ 70 ≤ h.length)
    (hQ : ∀ h' sl', HH h' ((hr + 1) % 31) (if bh + 1 ≤ 30 then bh + 1 else 30) 0 sl' (udR rw_ ((hr + 1) % 31) g) → FH h h' sl sl' → Q none h') : Cl X kX0_note [vR 5, vR 1] h Q := by
  have H' := H
  obtain ⟨h5, h6, hb, H4, H5, H6⟩ := H'
  refine cl_of rfl (Nat.le_of_ble_eq_true rfl) rfl ?_
  refine wp_aload_n dX0_note_0 rfl ?_
  refine wp_aload_n dX0_note_1 rfl ?_
  refine wp_getf dX0_note_2 fX0_28 h5 rfl ?_
  refine wp_iconst dX0_note_5 ?_
  refine wp_iadd dX0_note_6 ?_
  refine wp_bipush dX0_note_7 rfl ?_
  refine wp_iremn dX0_note_9 (by unfold r32; omega) (by unfold r32; omega) (by omega) (by omega) ?_
  refine wp_putv (fs' := [vR 6, vI ((hr + 1) % 31), vI bh, vI ah]) dX0_note_10 (pX0_28 rfl) h5 (Nat.le_of_ble_eq_true rfl) (fitF_int _) rfl ?_
  refine wp_aload_n dX0_note_13 rfl ?_
  refine wp_aload_n dX0_note_14 rfl ?_
  refine wp_getf dX0_note_15 fX0_17 (gs_eq (gs_lt h5)) rfl ?_
  refine wp_iconst dX0_note_18 ?_
  refine wp_iadd dX0_note_19 ?_
  refine wp_bipush dX0_note_20 rfl ?_
  refine wp_min dX0_note_22 lX0_31 (by unfold r32; omega) (by unfold r32; omega) (Nat.le_of_ble_eq_true rfl) (Nat.le_of_ble_eq_true rfl) ?_
  refine wp_putv (fs' := [vR 6, vI ((hr + 1) % 31), vI (if bh + 1 ≤ 30 then bh + 1 else 30), vI ah]) dX0_note_25 (pX0_17 rfl) (gs_eq (gs_lt h5)) (Nat.le_of_ble_eq_true rfl) (fitF_int _) rfl ?_
  rw [List.set_set]
  refine wp_aload_n dX0_note_28 rfl ?_
  refine wp_iconst dX0_note_29 ?_
  refine wp_putv (fs' := [vR 6, vI ((hr + 1) % 31), vI (if bh + 1 ≤ 30 then bh + 1 else 30), vI 0]) dX0_note_30 (pX0_21 rfl) (gs_eq (gs_lt h5)) (Nat.le_of_ble_eq_true rfl) (fitF_int _) rfl ?_
  rw [List.set_set]
  refine wp_aload_n dX0_note_33 rfl ?_
  refine wp_aload_n dX0_note_34 rfl ?_
  obtain ⟨q0, q1, fs, q2, q3⟩ := id hS
  have k5 := gs_eq (c := oO 0 [vR 6, vI ((hr + 1) % 31), vI (if bh + 1 ≤ 30 then bh + 1 else 30), vI 0]) (gs_lt h5)
  have hbb : (0 ≤ (hr + 1) % 31 ∧ (hr + 1) % 31 < 31) ∧ (0 ≤ (if bh + 1 ≤ 30 then bh + 1 else 30) ∧ (if bh + 1 ≤ 30 then bh + 1 else 30) ≤ 30) := by
    refine ⟨by omega, ?_⟩
    split <;> omega
  have e1 : ∀ i, i ≠ 5 → (h.set 5 (oO 0 [vR 6, vI ((hr + 1) % 31), vI (if bh + 1 ≤ 30 then bh + 1 else 30), vI 0]))[i]? = h[i]? := fun i hi => List.getElem?_set_ne (Ne.symm hi)
  refine wp_iv1 dX0_note_35 VX0_keepHere lX0_24 k5 (rq1 (0, 0) rfl (by decide) (by decide)) (Nat.le_of_ble_eq_true rfl) (C_keepHere (sa_mk (by decide) (gs_ne (by decide) q2) q3 (gs_ne (by decide) h2)) k5 (gs_ne (by decide) h6) (gs_ne (by decide) h2) hbb.1 hg (fun s hs => ?_) (fun h' sl' k => ?_))
  · have q := H4 _ hbb.1 s hs
    exact ⟨by omega, by omega, _, gs_ne (by omega) q.2.1, q.2.2⟩
  · dsimp only [pushR]
    refine wp_ret dX0_note_38 rfl (hQ h' sl' (HH.kp H k5 List.length_set e1 ⟨hbb.1.1, hbb.1.2, hbb.2.1, by omega, by omega⟩ hlen hg (fun d hd => ?_) k) (FH.kp H List.length_set e1 hbb.1 k))
    rcases Decidable.em (d = 0) with e | e
    · left; subst e; omega
    · right
      have := H6 (d + 1) (by revert hd; split <;> omega)
      rw [show (hr + 1) % 31 + d = (hr + 1) % 31 + d from rfl, show ((hr + 1) % 31 + d) % 31 = (hr + (d + 1)) % 31 by omega]
      exact this
end HS
