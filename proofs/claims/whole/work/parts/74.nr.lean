/-! rows that make objects and arrays, and that put arrays and objects into rows of references -/
section NR
variable {X : XS} {K : Kd} {pc : Nat} {L : List (Option AV)} {S : List AV} {h : AH} {b b0 : Nat × Nat} {Q : Option AV → AH → Prop}
theorem va_up_at (f : Nat → Nat) (n q : Nat) : va_up f n q n = q := if_pos rfl
theorem va_up_lt {f : Nat → Nat} {n q i : Nat} (h : i < n) : va_up f n q i = f i := if_neg (Nat.ne_of_lt h)
theorem Hl.push {D : va_G} {E : Nat → Nat} {A : Nat → Prop} {s : State} {ad : Nat → Nat} {ca : Nat → ClassId} {H H1 : Heap} {c : AC} {q : Nat} {cq : ClassId} (k : Hl D E A s ad ca h H) (hc : okC h.length c) (hT : ∀ ty, acT c = some ty → ArrOfT s cq ty ∧ va_RA s cq ty)
    (hP : va_P D vwCl (wsO E ad ca h ++ [(q, cvC E ad cq c)]) H1) (hD : va_D A (wsO E ad ca h ++ [(q, cvC E ad cq c)])) : Hl D E A s (va_up ad h.length q) (va_up ca h.length cq) (h ++ [c]) H1 := by
  rw [wsO_push k.2.2.2 hc] at hP hD
  refine ⟨hP, hD, fun i x ty hi hx => ?_, fun x hx => ?_⟩
  · rcases Nat.lt_or_ge i h.length with e | e
    · rw [List.getElem?_append_left e] at hi
      rw [va_up_lt e]
      exact k.2.2.1 i x ty hi hx
    · rw [List.getElem?_append_right e] at hi
      have z : i - h.length < 1 := (List.getElem?_eq_some_iff.mp hi).1
      have e2 : i = h.length := by omega
      subst e2
      rw [Nat.sub_self] at hi
      cases hi
      rw [va_up_at]
      exact hT ty hx
  · rw [List.length_append]
    rcases List.mem_append.mp hx with q | q
    · exact (k.2.2.2 x q).mono (by omega)
    · rw [List.mem_singleton.mp q]
      exact hc.mono (by omega)
/-- behind a making: the same walk at the longer heap -/
theorem wp_push {p : Program} {l : Launch} {e : Env} {R : Room} {s : State} {m : MethodId} {args : Array Value} {below : List Frame} {meth : Method} {c : Code} {D : va_G} {E : Nat → Nat} {A : Nat → Prop} {ad0 : Nat → Nat} {n0 : Nat} {Z : State → Prop} {cell : AC} {pc' N : Nat}
    (k : Wp X K pc' L (vR h.length :: S) (h ++ [cell]) b0 Q) (C : Cx X K D E A p R s m args meth c)
    (hz : ∀ (ad : Nat → Nat) (ca : Nat → ClassId) (h' : AH) (r : Option AV) (H : Heap) (locs : List Loc) (cells slots pc : Nat) (ls : Array Slot), Hl D E A s ad ca h' H → va_S A s.heap H locs → Ex n0 ad0 ad h' → cells ≤ R.cells → slots ≤ R.slots → Q r h' → okO h'.length r → Rt K pc r → W p l e R s m args below meth c H locs cells slots Z (F0 m pc ls ((r.map (cvV E ad)).toList)))
    {ad : Nat → Nat} {ca : Nat → ClassId} {H H1 : Heap} {locs : List Loc} {cells slots : Nat} {ls : Array Slot} {q : Nat} {cq : ClassId}
    (hH : Hl D E A s ad ca h H) (hE : Ex n0 ad0 ad h) (hL : okL h.length L) (hO : okS h.length S) (hls : LR E ad ls K.2.2.1 L) (hc : cells + 1 + b0.1 ≤ R.cells) (hs : slots + N + b0.2 ≤ R.slots) (hcell : okC h.length cell) (hT : ∀ ty, acT cell = some ty → ArrOfT s cq ty ∧ va_RA s cq ty)
    (hP : va_P D vwCl (wsO E ad ca h ++ [(q, cvC E ad cq cell)]) H1) (hD : va_D A (wsO E ad ca h ++ [(q, cvC E ad cq cell)])) (hS : va_S A s.heap H1 locs) :
    W p l e R s m args below meth c H1 locs (cells + 1) (slots + N) Z (F0 m pc' ls (.ref q :: S.map (cvV E ad))) := by
  have hag : ∀ v : AV, okV h.length v → cvV E (va_up ad h.length q) v = cvV E ad v := fun v hv => cvV_agree (fun i hi => va_up_lt hi) hv
  have hlen : (h ++ [cell]).length = h.length + 1 := by simp
  have kw := k p l e R s m args below meth c D E A ad0 n0 Z C hz (va_up ad h.length q) (va_up ca h.length cq) H1 locs (cells + 1) (slots + N) ls (hH.push hcell hT hP hD) hS
    ⟨by rw [hlen]; exact Nat.le_succ_of_le hE.1, fun i hi => (va_up_lt (Nat.lt_of_lt_of_le hi hE.1)).trans (hE.2 i hi)⟩ (fun i v hi => (hL i v hi).mono (by omega)) (okS_c (by show h.length < (h ++ [cell]).length; omega) (fun v hv => (hO v hv).mono (by omega)))
    ⟨hls.1, fun i v hi => by rw [hag v (hL i v hi)]; exact hls.2 i v hi⟩ hc hs
  have ek : (vR h.length :: S).map (cvV E (va_up ad h.length q)) = .ref q :: S.map (cvV E ad) := by
    rw [List.map_cons]
    congr 1
    · show va_rf (some (va_up ad h.length q h.length)) = _
      rw [va_up_at]; rfl
    · exact List.map_congr_left fun v hv => hag v (hO v hv)
  rw [ek] at kw
  exact kw
theorem wp_newi {x : Int} {N : Nat} (hd : decode K.2.1 pc = .ok (.newarray .int, 2)) (hw : Cond.arrayClass .int ∈ gdT) (hx : x = N) (hN : N * 4 ≤ 536870912) (hb1 : 1 + b0.1 ≤ b.1) (hb2 : N + b0.2 ≤ b.2) (k : Wp X K (pc + 2) L (vR h.length :: S) (h ++ [oI N (fun _ => 0)]) b0 Q) : Wp X K pc L (vI x :: S) h b Q :=
  fun p l e R s m args below meth c D E A ad0 n0 Z C hz ad ca H locs cells slots ls hH hS hE hL hO hls hc hs => by
    obtain ⟨g1, g2⟩ := r32_nn (z := x) (by omega) (by omega)
    refine va_newa (D := D) (ws := wsO E ad ca h) (tys := []) (a0 := (N, .inl (fun _ => Int32.ofInt 0))) C.1 C.2.1 (atype := .int) (C.2.2.2.2.1 _ hw) rfl C.2.2.2.2.2.2.1 hH.1 hH.2.1 hS C.2.2.2.2.2.2.2.2.1 (fun cA => rfl) g1 (by omega) hN (by omega) (by omega) hd (fun q cA H1 q1 q2 q3 q4 => ?_)
    exact wp_push k C hz hH hE hL (okS_t hO) hls (by omega) (by omega) trivial (fun ty hty => by cases hty; exact q1.2 0 _ rfl) q2 q3 q4
theorem wp_newl {x : Int} {N : Nat} (hd : decode K.2.1 pc = .ok (.newarray .long, 2)) (hw : Cond.arrayClass .long ∈ gdT) (hx : x = N) (hN : N * 8 ≤ 536870912) (hb1 : 1 + b0.1 ≤ b.1) (hb2 : N + b0.2 ≤ b.2) (k : Wp X K (pc + 2) L (vR h.length :: S) (h ++ [oL N (fun _ => 0)]) b0 Q) : Wp X K pc L (vI x :: S) h b Q :=
  fun p l e R s m args below meth c D E A ad0 n0 Z C hz ad ca H locs cells slots ls hH hS hE hL hO hls hc hs => by
    obtain ⟨g1, g2⟩ := r32_nn (z := x) (by omega) (by omega)
    refine va_newa (D := D) (ws := wsO E ad ca h) (tys := []) (a0 := (N, .inr (.inl (fun _ => Int64.ofInt 0)))) C.1 C.2.1 (atype := .long) (C.2.2.2.2.1 _ hw) rfl C.2.2.2.2.2.2.1 hH.1 hH.2.1 hS C.2.2.2.2.2.2.2.2.1 (fun cA => rfl) g1 (by omega) hN (by omega) (by omega) hd (fun q cA H1 q1 q2 q3 q4 => ?_)
    exact wp_push k C hz hH hE hL (okS_t hO) hls (by omega) (by omega) trivial (fun ty hty => by cases hty; exact q1.2 0 _ rfl) q2 q3 q4
theorem wp_newz {x : Int} {N : Nat} (hd : decode K.2.1 pc = .ok (.newarray .boolean, 2)) (hw : Cond.arrayClass .boolean ∈ gdT) (hx : x = N) (hN : N * 1 ≤ 536870912) (hb1 : 1 + b0.1 ≤ b.1) (hb2 : N + b0.2 ≤ b.2) (k : Wp X K (pc + 2) L (vR h.length :: S) (h ++ [oZ N (fun _ => 0)]) b0 Q) : Wp X K pc L (vI x :: S) h b Q :=
  fun p l e R s m args below meth c D E A ad0 n0 Z C hz ad ca H locs cells slots ls hH hS hE hL hO hls hc hs => by
    obtain ⟨g1, g2⟩ := r32_nn (z := x) (by omega) (by omega)
    refine va_newa (D := D) (ws := wsO E ad ca h) (tys := []) (a0 := (N, .inl (fun _ => Int32.ofInt 0))) C.1 C.2.1 (atype := .boolean) (C.2.2.2.2.1 _ hw) rfl C.2.2.2.2.2.2.1 hH.1 hH.2.1 hS C.2.2.2.2.2.2.2.2.1 (fun cA => rfl) g1 (by omega) hN (by omega) (by omega) hd (fun q cA H1 q1 q2 q3 q4 => ?_)
    exact wp_push k C hz hH hE hL (okS_t hO) hls (by omega) (by omega) trivial (fun ty hty => by cases hty; exact q1.2 0 _ rfl) q2 q3 q4
/-- a new object: its fields at first -/
theorem wp_new {own C0 : String} {T : u_T} {N ci idx : Nat} {fs : List AV} (ty : Nat → FieldType) (hd : decode K.2.1 pc = .ok (.new idx, 3)) (hown : K.1.cls = own) (hcl : Cond.classLink own idx C0 ∈ gdT) (hin : Cond.instantiable C0 N ∈ gdT) (hini : Cond.initialized C0 ∈ gdT) (hws : ∀ w ∈ u_ws C0 T N, w ∈ gdT) (hty : ∀ k, k < N → parseFieldDescriptor (T k).2.2.1 = some (ty k)) (hc : vwCl[ci]? = some (C0, T, N))
    (hfs : ∀ (E ad : Nat → Nat) (j : Nat), j < N → defaultValue (ty j) = vp_V (fs.map (cvV E ad)) j) (hok : ∀ n, okC n (oO ci fs)) (hb1 : 1 + b0.1 ≤ b.1) (hb2 : N + b0.2 ≤ b.2) (k : Wp X K (pc + 3) L (vR h.length :: S) (h ++ [oO ci fs]) b0 Q) : Wp X K pc L S h b Q :=
  fun p l e R s m args below meth c D E A ad0 n0 Z C hz ad ca H locs cells slots ls hH hS hE hL hO hls hc' hs => by
    subst hown
    refine va_new (D := D) (ws := wsO E ad ca h) (tys := []) (fs := fs.map (cvV E ad)) C.1 C.2.1 C.2.2.2.2.1 hws ty hty C.2.2.2.1 (C.2.2.2.2.1 _ hcl) (C.2.2.2.2.1 _ hin) (C.2.2.2.2.1 _ hini) C.2.2.2.2.2.2.1 hH.1 hH.2.1 hS C.2.2.2.2.2.2.2.2.1 hc (hfs E ad) (by omega) (by omega) hd (fun q H1 q2 q3 q4 => ?_)
    exact wp_push (cq := 0) k C hz hH hE hL hO hls (by omega) (by omega) (hok _) (fun ty hty => by cases hty) q2 q3 q4
/-- a new row of plans -/
theorem wp_newP {x : Int} {N idx : Nat} (hd : decode K.2.1 pc = .ok (.anewarray idx, 3)) (hcl : Cond.classLink K.1.cls idx "LookAsideCache$Plan" ∈ gdT) (hx : x = N) (hN : N * 4 ≤ 536870912) (hb1 : 1 + b0.1 ≤ b.1) (hb2 : N + b0.2 ≤ b.2) (k : Wp X K (pc + 3) L (vR h.length :: S) (h ++ [oR 0 N (fun _ => none)]) b0 Q) : Wp X K pc L (vI x :: S) h b Q :=
  fun p l e R s m args below meth c D E A ad0 n0 Z C hz ad ca H locs cells slots ls hH hS hE hL hO hls hc hs => by
    obtain ⟨g1, g2⟩ := r32_nn (z := x) (by omega) (by omega)
    have hNW := C.2.2.2.2.2.2.2.1.2.2.2.2.2.2
    refine va_newq (D := D) (ws := wsO E ad ca h) (tys := []) C.1 C.2.1 C.2.2.2.1 (C.2.2.2.2.1 _ hcl) hNW.2.1 C.2.2.2.2.2.2.1 hH.1 hH.2.1 hS C.2.2.2.2.2.2.2.2.1 (N' := N) g1 (by omega) hN (by omega) (by omega) hd (fun q cA H1 q1 q2 q3 q4 => ?_)
    exact wp_push k C hz hH hE hL (okS_t hO) hls (by omega) (by omega) (fun z j e => by cases e) (fun ty hty => by cases hty; exact q1.2 0 _ rfl) q2 q3 q4
/-- a new row of rows of ints -/
theorem wp_newA {x : Int} {N idx : Nat} (hd : decode K.2.1 pc = .ok (.anewarray idx, 3)) (hcl : Cond.classLink K.1.cls idx (FieldType.array .int).toString ∈ gdT) (hx : x = N) (hN : N * 4 ≤ 536870912) (hb1 : 1 + b0.1 ≤ b.1) (hb2 : N + b0.2 ≤ b.2) (k : Wp X K (pc + 3) L (vR h.length :: S) (h ++ [oR 1 N (fun _ => none)]) b0 Q) : Wp X K pc L (vI x :: S) h b Q :=
  fun p l e R s m args below meth c D E A ad0 n0 Z C hz ad ca H locs cells slots ls hH hS hE hL hO hls hc hs => by
    obtain ⟨g1, g2⟩ := r32_nn (z := x) (by omega) (by omega)
    have g3 : (Int32.ofInt x).toNatClampNeg = N := by omega
    have hNW := C.2.2.2.2.2.2.2.1.2.2.2.2.2.2
    refine W.anewA C.1 C.2.1 C.2.2.2.1 (C.2.2.2.2.1 _ hcl) (va_AOA.use hNW.2.2.1) rfl hd rfl g1 (by rw [g3]; exact hN) (by omega) (by rw [g3]; omega) fun cA kA comp f1 f2 f3 f4 => ?_
    rw [g3]
    generalize hH1 : H.push ({ cls := cA, slots := Array.replicate N .null, vm := .none } : Cell) = H1
    have z1 : H1.size = H.size + 1 := by rw [← hH1, Array.size_push]
    have e1 : H1[H.size]? = some (arrV cA N (fun _ => .null)) := by rw [← hH1, Array.getElem?_push_size, ← arrV_new]
    have o1 : ∀ q : Nat, q < H.size → H1[q]? = H[q]? := fun q hq => by rw [← hH1, Array.getElem?_push, if_neg (Nat.ne_of_lt hq)]
    have hAr : ArrOfT s cA (.array .int) := fun N z => ⟨(fun k h => by cases h), kA, f2, comp, f3⟩
    have hk : ∀ (k : Nat) (x : Nat × va_E), (wsO E ad ca h)[k]? = some x → H1[x.1]? = H[x.1]? := fun k x hx => o1 x.1 ((hH.1 k x hx).lt)
    refine wp_push (q := H.size) (cq := cA) k C hz hH hE hL (okS_t hO) hls (by omega) (by omega) (fun z j e => by cases e) (fun ty hty => by cases hty; exact ⟨hAr, f1⟩) ((hH.1.kept hk).app (fun k x hx => ?_)) (hH.2.1.push hH.1 rfl (C.2.2.2.2.2.2.2.2.1 _ hS.1)) ⟨Nat.le_trans hS.1 (by omega), fun x h1 h2 => (o1 x (Nat.lt_of_lt_of_le h1 hS.1)).trans (hS.2.1 x h1 h2), hS.2.2⟩
    have hz2 : k < 1 := (List.getElem?_eq_some_iff.mp hx).1
    rw [show k = 0 by omega] at hx
    cases hx
    show H1[H.size]? = some (vp_cell _ _)
    show H1[H.size]? = some (vp_cell cA (N, .inr (.inr (.inr (.inr (fun _ => none))))))
    rw [vp_cell_q]
    exact e1
/-- an object comes into a row of plans -/
theorem wp_astP {i j n : Nat} {f : Int → Option Nat} {x : Int} {fs : List AV} (hd : decode K.2.1 pc = .ok (.aastore, 1)) (hi : h[i]? = some (oR 0 n f)) (hj : h[j]? = some (oO 2 fs)) (hn : n < 2147483648) (h0 : 0 ≤ x) (h1 : x < n) (k : Wp X K (pc + 1) L S (h.set i (oR 0 n (udO f x (some j)))) b Q) : Wp X K pc L (vR j :: vI x :: vR i :: S) h b Q :=
  fun p l e R s m args below meth c D E A ad0 n0 Z C hz ad ca H locs cells slots ls hH hS hE hL hO hls hc hs => by
    obtain ⟨g1, g2⟩ := r32_in h0 h1 (by omega)
    refine va_astq (D := D) (ws := wsO E ad ca h) (tys := [(ca i, tyR 0)]) C.1 C.2.1 (K1 C.2.2.2.2.2.2.1 (hH.2.2.1 i _ (tyR 0) hi rfl)) hH.1 hH.2.1 hS i 0 j 2 (wsO_get hi) rfl (wsO_get hj) rfl g1 hd (fun H1 locs1 q1 q2 q3 => ?_)
    have e2 : va_up (fun i : Nat => (f i).map ad) (Int32.ofInt x).toNatClampNeg (some (ad j)) = fun i : Nat => (udO f x (some j) i).map ad := ud_O (x := some j) g2
    rw [e2] at q1 q2
    have hok : okC h.length (oR 0 n (udO f x (some j))) := fun z w hw => by
      unfold udO at hw
      split at hw
      · cases hw; exact okS_h hO
      · exact hH.2.2.2 _ (List.mem_of_getElem? hi) z w hw
    exact k p l e R s m args below meth c D E A ad0 n0 Z C hz ad ca H1 locs1 cells slots ls (hH.set (c' := oR 0 n (udO f x (some j))) hi rfl hok q1 q2) q3 hE.set (by rw [List.length_set]; exact hL) (by rw [List.length_set]; exact okS_t (okS_t (okS_t hO))) hls hc hs
/-- a row of ints comes into a row of such rows -/
theorem wp_astA {i j n n2 : Nat} {f : Int → Option Nat} {g : Int → Int} {x : Int} (hd : decode K.2.1 pc = .ok (.aastore, 1)) (hi : h[i]? = some (oR 1 n f)) (hj : h[j]? = some (oI n2 g)) (hn : n < 2147483648) (h0 : 0 ≤ x) (h1 : x < n) (k : Wp X K (pc + 1) L S (h.set i (oR 1 n (udO f x (some j)))) b Q) : Wp X K pc L (vR j :: vI x :: vR i :: S) h b Q :=
  fun p l e R s m args below meth c D E A ad0 n0 Z C hz ad ca H locs cells slots ls hH hS hE hL hO hls hc hs => by
    obtain ⟨g1, g2⟩ := r32_in h0 h1 (by omega)
    have hlt : (Int32.ofInt x).toNatClampNeg < n := Nat.not_le.mp fun q => g1 (Or.inr q)
    have hNW := C.2.2.2.2.2.2.2.1.2.2.2.2.2.2
    obtain ⟨comp, cA, kA, k1, k2, k3, k4, k5⟩ := arrayOverA_spec (va_AOA.use hNW.2.2.1 (A := args))
    have hci : ca i = cA := Option.some.inj ((hH.2.2.1 i _ (tyR 1) hi rfl).2.symm.trans k5)
    have hcj : ca j = comp := Option.some.inj ((hH.2.2.1 j _ .int hj rfl).2.symm.trans k1)
    obtain ⟨kE, hkE, -⟩ := Vm.findClass_spec k1
    have hPi := hH.1 i _ (wsO_get hi)
    have hPj := hH.1 j _ (wsO_get hj)
    refine W.aast (cell := vp_cell (ca i) (n, .inr (.inr (.inr (.inr (fun q : Nat => (f q).map ad)))))) (cv := vp_cell (ca j) (n2, .inl (fun q : Nat => Int32.ofInt (g q)))) (k := kA) (kv := kE) (kcomp := kE) (comp := comp) (t := .array .int) C.1 C.2.1 hPi (fun q h => by cases h) (fun h => by cases h) (by show s.vm.classes[ca i]? = _; rw [hci]; exact k3) k4 rfl hkE ⟨fun q => g1 (Or.inl q), by show _ < (arrV _ _ _).slots.size; rw [arrV_size]; exact hlt⟩ hPj (fun q h => by cases h) (by show s.vm.classes[ca j]? = _; rw [hcj]; exact hkE) (by show s.vm.assignable (ca j) comp = true; rw [hcj]; exact Vm.assignable_self _ _) rfl rfl hd fun H1 z1 z2 oq => ?_
    have hok : okC h.length (oR 1 n (udO f x (some j))) := fun z w hw => by
      unfold udO at hw
      split at hw
      · cases hw; exact okS_h hO
      · exact hH.2.2.2 _ (List.mem_of_getElem? hi) z w hw
    have hcell : H1[ad i]? = some (vp_cell (ca i) (n, .inr (.inr (.inr (.inr (fun q : Nat => (udO f x (some j) q).map ad)))))) := by
      rw [z1]
      rw [vp_cell_q, vp_cell_q, arrV_store]
      congr 2
      funext q
      have e2 := congrFun (ud_O (ad := ad) (f := f) (x := some j) g2) q
      by_cases hq : q = (Int32.ofInt x).toNatClampNeg
      · subst hq
        rw [← e2]
        simp [updV, va_up, va_rf]
      · rw [← e2]
        simp [updV, va_up, hq]
    exact k p l e R s m args below meth c D E A ad0 n0 Z C hz ad ca H1 _ cells slots ls (hH.set (c' := oR 1 n (udO f x (some j))) hi rfl hok (hH.1.set hH.2.1 (wsO_get hi) hcell oq) (hH.2.1.set (wsO_get hi))) (hS.put z2 oq (hH.2.1.2 i _ (wsO_get hi))) hE.set (by rw [List.length_set]; exact hL) (by rw [List.length_set]; exact okS_t (okS_t (okS_t hO))) hls hc hs
end NR
