/-! rows of fields and arrays -/
section ACC
variable {X : XS} {K : Kd} {pc : Nat} {L : List (Option AV)} {S : List AV} {h : AH} {b : Nat × Nat} {Q : Option AV → AH → Prop}
/-- a field's link: class number ci, field k -/
def FL (own : String) (idx ci k : Nat) : Prop := ∃ (C : String) (T : u_T) (N : Nat), vwCl[ci]? = some (C, T, N) ∧ k < N ∧ (∀ w ∈ u_ws C T N, w ∈ gdT) ∧ (Cond.fieldLink own idx (T k).1 (T k).2.1 (T k).2.2.1 ∈ gdT ∨ ∃ host, Cond.fieldLinkNest own idx (T k).1 (T k).2.1 (T k).2.2.1 host ∈ nwT)
theorem wp_getf {i ci k idx : Nat} {fs : List AV} {v : AV} (hd : decode K.2.1 pc = .ok (.getfield idx, 3)) (hl : FL K.1.cls idx ci k) (hi : h[i]? = some (oO ci fs)) (hv : fs[k]? = some v) (kk : Wp X K (pc + 3) L (v :: S) h b Q) : Wp X K pc L (vR i :: S) h b Q :=
  fun p l e R s m args below meth c D E A ad0 n0 Z C hz ad ca H locs cells slots ls hH hS hE hL hO hls hc hs => by
    obtain ⟨Cn, T, N, h1, h2, h3, h4⟩ := hl
    have hok : okV h.length v := hH.2.2.2 _ (List.mem_of_getElem? hi) v (List.mem_of_getElem? hv)
    have kw := kk p l e R s m args below meth c D E A ad0 n0 Z C hz ad ca H locs cells slots ls hH hS hE hL (okS_c hok (okS_t hO)) hls hc hs
    have hv2 : (fs.map (cvV E ad))[k]? = some (cvV E ad v) := by rw [List.getElem?_map, hv]; rfl
    rcases h4 with h4 | ⟨host, h4⟩
    · exact va_get (D := D) (ws := wsO E ad ca h) (v := cvV E ad v) C.1 C.2.1 C.2.2.2.2.1 h3 C.2.2.2.1 C.2.2.2.2.2.2.1 hH.1 i (wsO_get hi) h1 k h2 (C.2.2.2.2.1 _ h4) (fun _ q => q) hv2 hd kw
    · exact va_getN (D := D) (ws := wsO E ad ca h) (v := cvV E ad v) C.1 C.2.1 C.2.2.2.2.1 h3 C.2.2.2.1 C.2.2.2.2.2.2.1 hH.1 i (wsO_get hi) h1 k h2 (va_Nw.use rfl (C.2.2.2.2.2.2.2.1.2.2.2.2.2.2.1 _ h4)) (fun _ q => q) hv2 hd kw
/-- a value that a field of a type takes -/
def fitF (ty : FieldType) (v : AV) : Prop := ∀ E ad : Nat → Nat, narrow ty (cvV E ad v) = cvV E ad v ∧ fits ty (cvV E ad v) = true
theorem fitF_int (z : Int) : fitF .int (vI z) := fun _ _ => ⟨rfl, rfl⟩
theorem fitF_long (z : Int) : fitF .long (vL z) := fun _ _ => ⟨rfl, rfl⟩
theorem fitF_ref (C : String) (o : Option Nat) : fitF (.object C) (vO o) := fun _ _ => by cases o <;> exact ⟨rfl, rfl⟩
theorem fitF_arr (t : FieldType) (o : Option Nat) : fitF (.array t) (vO o) := fun _ _ => by cases o <;> exact ⟨rfl, rfl⟩
theorem fitF_b0 : narrow .boolean (.int (Int32.ofInt 0)) = .int (Int32.ofInt 0) ∧ fits .boolean (.int (Int32.ofInt 0)) = true := ⟨by decide +kernel, by decide +kernel⟩
theorem fitF_b1 : narrow .boolean (.int (Int32.ofInt 1)) = .int (Int32.ofInt 1) ∧ fits .boolean (.int (Int32.ofInt 1)) = true := ⟨by decide +kernel, by decide +kernel⟩
theorem fitF_bool {z : Int} (hz : z = 0 ∨ z = 1) : fitF .boolean (vI z) := fun _ _ => by
  rcases hz with rfl | rfl
  · exact fitF_b0
  · exact fitF_b1
/-- a field's link for a write: what type it has; a final one in its own class' constructor -/
def FP (y : MethodName) (idx ci k : Nat) (ty : FieldType) : Prop := ∃ (C : String) (T : u_T) (N : Nat) (t0 : Nat → FieldType), vwCl[ci]? = some (C, T, N) ∧ k < N ∧ (∀ w ∈ u_ws C T N, w ∈ gdT) ∧ (∀ k, k < N → parseFieldDescriptor (T k).2.2.1 = some (t0 k)) ∧ (∀ a, a < N → ∀ b, b < N → a ≠ b → (T a).2.1 ≠ (T b).2.1) ∧ parseFieldDescriptor (T k).2.2.1 = some ty ∧
  (((T k).2.2.2 = true ∧ y.name = "<init>" ∧ (T k).1 = y.cls ∧ Cond.fieldLink y.cls idx (T k).1 (T k).2.1 (T k).2.2.1 ∈ gdT) ∨ ((T k).2.2.2 = false ∧ (Cond.fieldLink y.cls idx (T k).1 (T k).2.1 (T k).2.2.1 ∈ gdT ∨ ∃ host, Cond.fieldLinkNest y.cls idx (T k).1 (T k).2.1 (T k).2.2.1 host ∈ nwT)))
theorem wp_putf {i ci k idx : Nat} {ty : FieldType} {fs : List AV} {v : AV} (hd : decode K.2.1 pc = .ok (.putfield idx, 3)) (hl : FP K.1 idx ci k ty) (hi : h[i]? = some (oO ci fs)) (hk : k < fs.length) (hv : fitF ty v) (kk : Wp X K (pc + 3) L S (h.set i (oO ci (fs.set k v))) b Q) : Wp X K pc L (v :: vR i :: S) h b Q :=
  fun p l e R s m args below meth c D E A ad0 n0 Z C hz ad ca H locs cells slots ls hH hS hE hL hO hls hc hs => by
    obtain ⟨Cn, T, N, t0, h1, h2, h3, h5, h6, h7, h4⟩ := hl
    have hok : okC h.length (oO ci (fs.set k v)) := fun u hu => by
      rcases List.mem_or_eq_of_mem_set hu with q | q
      · exact hH.2.2.2 _ (List.mem_of_getElem? hi) u q
      · rw [q]; exact okS_h hO
    have kw : ∀ (H1 : Heap) (locs1 : List Loc), va_P D vwCl ((wsO E ad ca h).set i (ad i, .inr (ci, (fs.map (cvV E ad)).set k (cvV E ad v)))) H1 → va_D A ((wsO E ad ca h).set i (ad i, .inr (ci, (fs.map (cvV E ad)).set k (cvV E ad v)))) → va_S A s.heap H1 locs1 → W p l e R s m args below meth c H1 locs1 cells slots Z (F0 m (pc + 3) ls (S.map (cvV E ad))) := by
      intro H1 locs1 q1 q2 q3
      have ee : (Sum.inr (ci, (fs.map (cvV E ad)).set k (cvV E ad v)) : va_E) = cvC E ad (ca i) (oO ci (fs.set k v)) := by
        show _ = Sum.inr _
        rw [List.map_set]
      rw [ee] at q1 q2
      exact kk p l e R s m args below meth c D E A ad0 n0 Z C hz ad ca H1 locs1 cells slots ls (hH.set hi rfl hok q1 q2) q3 hE.set (by rw [List.length_set]; exact hL) (by rw [List.length_set]; exact okS_t (okS_t hO)) hls hc hs
    have hk2 : k < (fs.map (cvV E ad)).length := by rw [List.length_map]; exact hk
    rcases h4 with ⟨g1, g2, g3, g4⟩ | ⟨g1, g4 | ⟨host, g4⟩⟩
    · exact va_putF (D := D) (ws := wsO E ad ca h) (ty := ty) C.1 C.2.1 C.2.2.2.2.1 h3 t0 h5 h6 C.2.2.2.1 C.2.2.2.2.2.2.1 hH.1 hH.2.1 hS i (wsO_get hi) h1 k h2 (C.2.2.2.2.1 _ g4) (fun _ q => q) g1 (C.2.2.2.2.2.1.2.2.trans g2) g3 h7 (hv E ad).1 (hv E ad).2 hk2 hd kw
    · exact va_put (D := D) (ws := wsO E ad ca h) (ty := ty) C.1 C.2.1 C.2.2.2.2.1 h3 t0 h5 h6 C.2.2.2.1 C.2.2.2.2.2.2.1 hH.1 hH.2.1 hS i (wsO_get hi) h1 k h2 (C.2.2.2.2.1 _ g4) (fun _ q => q) g1 h7 (hv E ad).1 (hv E ad).2 hk2 hd kw
    · exact va_putN (D := D) (ws := wsO E ad ca h) (ty := ty) C.1 C.2.1 C.2.2.2.2.1 h3 t0 h5 h6 C.2.2.2.1 C.2.2.2.2.2.2.1 hH.1 hH.2.1 hS i (wsO_get hi) h1 k h2 (va_Nw.use rfl (C.2.2.2.2.2.2.2.1.2.2.2.2.2.2.1 _ g4)) (fun _ q => q) g1 h7 (hv E ad).1 (hv E ad).2 hk2 hd kw
theorem wp_iald {i n : Nat} {f : Int → Int} {j : Int} (hd : decode K.2.1 pc = .ok (.iaload, 1)) (hi : h[i]? = some (oI n f)) (hn : n < 2147483648) (h0 : 0 ≤ j) (h1 : j < n) (kk : Wp X K (pc + 1) L (vI (f j) :: S) h b Q) : Wp X K pc L (vI j :: vR i :: S) h b Q :=
  fun p l e R s m args below meth c D E A ad0 n0 Z C hz ad ca H locs cells slots ls hH hS hE hL hO hls hc hs => by
    obtain ⟨g1, g2⟩ := r32_in h0 h1 (by omega)
    refine va_iald (D := D) (ws := wsO E ad ca h) (tys := [(ca i, .int)]) C.1 C.2.1 (K1 C.2.2.2.2.2.2.1 (hH.2.2.1 i _ .int hi rfl)) hH.1 i 0 (wsO_get hi) rfl g1 hd ?_
    rw [g2]
    exact kk p l e R s m args below meth c D E A ad0 n0 Z C hz ad ca H locs cells slots ls hH hS hE hL (okS_c (by exact trivial) (okS_t (okS_t hO))) hls hc hs
theorem wp_lald {i n : Nat} {f : Int → Int} {j : Int} (hd : decode K.2.1 pc = .ok (.laload, 1)) (hi : h[i]? = some (oL n f)) (hn : n < 2147483648) (h0 : 0 ≤ j) (h1 : j < n) (kk : Wp X K (pc + 1) L (vL (f j) :: S) h b Q) : Wp X K pc L (vI j :: vR i :: S) h b Q :=
  fun p l e R s m args below meth c D E A ad0 n0 Z C hz ad ca H locs cells slots ls hH hS hE hL hO hls hc hs => by
    obtain ⟨g1, g2⟩ := r32_in h0 h1 (by omega)
    refine va_lald (D := D) (ws := wsO E ad ca h) (tys := [(ca i, .long)]) C.1 C.2.1 (K1 C.2.2.2.2.2.2.1 (hH.2.2.1 i _ .long hi rfl)) hH.1 i 0 (wsO_get hi) rfl g1 hd ?_
    rw [g2]
    exact kk p l e R s m args below meth c D E A ad0 n0 Z C hz ad ca H locs cells slots ls hH hS hE hL (okS_c (by exact trivial) (okS_t (okS_t hO))) hls hc hs
theorem wp_zald {i n : Nat} {f : Int → Int} {j : Int} (hd : decode K.2.1 pc = .ok (.baload, 1)) (hi : h[i]? = some (oZ n f)) (hn : n < 2147483648) (h0 : 0 ≤ j) (h1 : j < n) (kk : Wp X K (pc + 1) L (vI (f j) :: S) h b Q) : Wp X K pc L (vI j :: vR i :: S) h b Q :=
  fun p l e R s m args below meth c D E A ad0 n0 Z C hz ad ca H locs cells slots ls hH hS hE hL hO hls hc hs => by
    obtain ⟨g1, g2⟩ := r32_in h0 h1 (by omega)
    refine va_zald (D := D) (ws := wsO E ad ca h) (tys := [(ca i, .boolean)]) C.1 C.2.1 (K1 C.2.2.2.2.2.2.1 (hH.2.2.1 i _ .boolean hi rfl)) hH.1 i 0 (wsO_get hi) rfl g1 hd ?_
    rw [g2]
    exact kk p l e R s m args below meth c D E A ad0 n0 Z C hz ad ca H locs cells slots ls hH hS hE hL (okS_c (by exact trivial) (okS_t (okS_t hO))) hls hc hs
theorem wp_aald {i t n : Nat} {f : Int → Option Nat} {j : Int} (hd : decode K.2.1 pc = .ok (.aaload, 1)) (hi : h[i]? = some (oR t n f)) (hn : n < 2147483648) (h0 : 0 ≤ j) (h1 : j < n) (kk : Wp X K (pc + 1) L (vO (f j) :: S) h b Q) : Wp X K pc L (vI j :: vR i :: S) h b Q :=
  fun p l e R s m args below meth c D E A ad0 n0 Z C hz ad ca H locs cells slots ls hH hS hE hL hO hls hc hs => by
    obtain ⟨g1, g2⟩ := r32_in h0 h1 (by omega)
    have hlt : (Int32.ofInt j).toNatClampNeg < n := Nat.not_le.mp fun q => g1 (Or.inr q)
    have hok : okV h.length (vO (f j)) := by
      cases hf : f j with
      | none => trivial
      | some q => exact hH.2.2.2 _ (List.mem_of_getElem? hi) j q hf
    have hP := hH.1 i _ (wsO_get hi)
    refine W.aald (v := cvV E ad (vO (f j))) (ty := tyR t) C.1 C.2.1 hP ((hH.2.2.1 i _ (tyR t) hi rfl).1 n (fun q : Nat => va_rf ((f q).map ad))) (by unfold tyR; split <;> rfl) (fun q => by cases q) (by show ¬ (_ ∨ (arrV _ _ _).slots.size ≤ _); rw [arrV_size]; exact g1) (by show (arrV _ _ _).slots[_]? = _; rw [arrV_read _ _ hlt]; show some (va_rf ((f ((Int32.ofInt j).toNatClampNeg : Int)).map ad)) = _; rw [g2]; rfl) rfl rfl hd ?_
    exact kk p l e R s m args below meth c D E A ad0 n0 Z C hz ad ca H locs cells slots ls hH hS hE hL (okS_c hok (okS_t (okS_t hO))) hls hc hs
theorem wp_iast {i n : Nat} {f : Int → Int} {j x : Int} (hd : decode K.2.1 pc = .ok (.iastore, 1)) (hi : h[i]? = some (oI n f)) (hn : n < 2147483648) (h0 : 0 ≤ j) (h1 : j < n) (kk : Wp X K (pc + 1) L S (h.set i (oI n (ud f j x))) b Q) : Wp X K pc L (vI x :: vI j :: vR i :: S) h b Q :=
  fun p l e R s m args below meth c D E A ad0 n0 Z C hz ad ca H locs cells slots ls hH hS hE hL hO hls hc hs => by
    obtain ⟨g1, g2⟩ := r32_in h0 h1 (by omega)
    refine va_iast (D := D) (ws := wsO E ad ca h) (tys := [(ca i, .int)]) C.1 C.2.1 (K1 C.2.2.2.2.2.2.1 (hH.2.2.1 i _ .int hi rfl)) hH.1 hH.2.1 hS i 0 (wsO_get hi) rfl g1 hd (fun H1 locs1 q1 q2 q3 => ?_)
    rw [ud_32 g2] at q1 q2
    exact kk p l e R s m args below meth c D E A ad0 n0 Z C hz ad ca H1 locs1 cells slots ls (hH.set (c' := oI n (ud f j x)) hi rfl trivial q1 q2) q3 hE.set (by rw [List.length_set]; exact hL) (by rw [List.length_set]; exact okS_t (okS_t (okS_t hO))) hls hc hs
theorem wp_last {i n : Nat} {f : Int → Int} {j x : Int} (hd : decode K.2.1 pc = .ok (.lastore, 1)) (hi : h[i]? = some (oL n f)) (hn : n < 2147483648) (h0 : 0 ≤ j) (h1 : j < n) (kk : Wp X K (pc + 1) L S (h.set i (oL n (ud f j x))) b Q) : Wp X K pc L (vL x :: vI j :: vR i :: S) h b Q :=
  fun p l e R s m args below meth c D E A ad0 n0 Z C hz ad ca H locs cells slots ls hH hS hE hL hO hls hc hs => by
    obtain ⟨g1, g2⟩ := r32_in h0 h1 (by omega)
    refine va_last (D := D) (ws := wsO E ad ca h) (tys := [(ca i, .long)]) C.1 C.2.1 (K1 C.2.2.2.2.2.2.1 (hH.2.2.1 i _ .long hi rfl)) hH.1 hH.2.1 hS i 0 (wsO_get hi) rfl g1 hd (fun H1 locs1 q1 q2 q3 => ?_)
    rw [ud_64 g2] at q1 q2
    exact kk p l e R s m args below meth c D E A ad0 n0 Z C hz ad ca H1 locs1 cells slots ls (hH.set (c' := oL n (ud f j x)) hi rfl trivial q1 q2) q3 hE.set (by rw [List.length_set]; exact hL) (by rw [List.length_set]; exact okS_t (okS_t (okS_t hO))) hls hc hs
theorem nar_bool {x : Int} (hx : x = 0 ∨ x = 1) : vp_nar .boolean (Int32.ofInt x) = Int32.ofInt x := by rcases hx with rfl | rfl <;> decide +kernel
theorem wp_zast {i n : Nat} {f : Int → Int} {j x : Int} (hd : decode K.2.1 pc = .ok (.bastore, 1)) (hi : h[i]? = some (oZ n f)) (hn : n < 2147483648) (h0 : 0 ≤ j) (h1 : j < n) (hx : x = 0 ∨ x = 1) (kk : Wp X K (pc + 1) L S (h.set i (oZ n (ud f j x))) b Q) : Wp X K pc L (vI x :: vI j :: vR i :: S) h b Q :=
  fun p l e R s m args below meth c D E A ad0 n0 Z C hz ad ca H locs cells slots ls hH hS hE hL hO hls hc hs => by
    obtain ⟨g1, g2⟩ := r32_in h0 h1 (by omega)
    refine va_zast (D := D) (ws := wsO E ad ca h) (tys := [(ca i, .boolean)]) C.1 C.2.1 (K1 C.2.2.2.2.2.2.1 (hH.2.2.1 i _ .boolean hi rfl)) hH.1 hH.2.1 hS i 0 (wsO_get hi) rfl g1 hd (fun H1 locs1 q1 q2 q3 => ?_)
    rw [nar_bool hx, ud_32 g2] at q1 q2
    exact kk p l e R s m args below meth c D E A ad0 n0 Z C hz ad ca H1 locs1 cells slots ls (hH.set (c' := oZ n (ud f j x)) hi rfl trivial q1 q2) q3 hE.set (by rw [List.length_set]; exact hL) (by rw [List.length_set]; exact okS_t (okS_t (okS_t hO))) hls hc hs
/-- how long an array is -/
def lenC : AC → Option Nat
  | Sum.inl (n, _) => some n
  | Sum.inr (Sum.inl (n, _)) => some n
  | Sum.inr (Sum.inr (Sum.inl (n, _))) => some n
  | Sum.inr (Sum.inr (Sum.inr (Sum.inl (_, n, _)))) => some n
  | Sum.inr (Sum.inr (Sum.inr (Sum.inr _))) => none
theorem wp_alen {i n : Nat} {x : AC} (hd : decode K.2.1 pc = .ok (.arraylength, 1)) (hi : h[i]? = some x) (hx : lenC x = some n) (kk : Wp X K (pc + 1) L (vI n :: S) h b Q) : Wp X K pc L (vR i :: S) h b Q :=
  fun p l e R s m args below meth c D E A ad0 n0 Z C hz ad ca H locs cells slots ls hH hS hE hL hO hls hc hs => by
    have kw := kk p l e R s m args below meth c D E A ad0 n0 Z C hz ad ca H locs cells slots ls hH hS hE hL (okS_c (by exact trivial) (okS_t hO)) hls hc hs
    have ev : ∀ q : Nat, Int32.ofNat q = Int32.ofInt (q : Int) := fun q => (Int32.ofInt_eq_ofNat).symm
    have hg := wsO_get (E := E) (ad := ad) (ca := ca) hi
    rcases x with x | x | x | x | x
    · obtain ⟨n', f⟩ := x
      cases hx
      exact va_alen (D := D) (ws := wsO E ad ca h) (tys := [(ca i, .int)]) C.1 C.2.1 (K1 C.2.2.2.2.2.2.1 (hH.2.2.1 i _ .int hi rfl)) hH.1 i 0 hg rfl (ev _) hd kw
    · obtain ⟨n', f⟩ := x
      cases hx
      exact va_alen (D := D) (ws := wsO E ad ca h) (tys := [(ca i, .long)]) C.1 C.2.1 (K1 C.2.2.2.2.2.2.1 (hH.2.2.1 i _ .long hi rfl)) hH.1 i 0 hg rfl (ev _) hd kw
    · obtain ⟨n', f⟩ := x
      cases hx
      exact va_alen (D := D) (ws := wsO E ad ca h) (tys := [(ca i, .boolean)]) C.1 C.2.1 (K1 C.2.2.2.2.2.2.1 (hH.2.2.1 i _ .boolean hi rfl)) hH.1 i 0 hg rfl (ev _) hd kw
    · obtain ⟨t, n', f⟩ := x
      cases hx
      exact va_alen (D := D) (ws := wsO E ad ca h) (tys := [(ca i, tyR t)]) C.1 C.2.1 (K1 C.2.2.2.2.2.2.1 (hH.2.2.1 i _ (tyR t) hi rfl)) hH.1 i 0 hg rfl (ev _) hd kw
    · cases hx
end ACC
