/-! rows of the invocations -/
section INV
variable {X : XS} {K : Kd} {pc : Nat} {L : List (Option AV)} {S : List AV} {h : AH} {b : Nat × Nat} {Q : Option AV → AH → Prop}
theorem Pc_pre {D : va_G} {E : Nat → Nat} {A : Nat → Prop} {ad : Nat → Nat} {ca : Nat → ClassId} {As : List AV} {p : Program} {R : Room} {s : State} {m : MethodId} {args : Array Value} {meth : Method} {c : Code} {H : Heap} {locs : List Loc} (C : Cx X K D E A p R s m args meth c) (hH : Hl D E A s ad ca h H) (hS : va_S A s.heap H locs) (hO : okS h.length As) :
    ∀ U : State, U.heap = H → s.WarmedH U.vm → PcK X D E A ad ca As h (As.map (cvV E ad)).toArray U := fun U hU hW =>
  ⟨rfl, by rw [hU]; exact hH.moved hW.alike, hO, va_K.moved hW.alike C.2.2.2.2.2.2.1, by rw [hU]; exact (C.2.2.2.2.2.2.2.1.kept hS.2.1).moved hW, fun q hq => C.2.2.2.2.2.2.2.2.1 q (Nat.le_trans hS.1 (by rw [← hU]; exact hq))⟩
theorem wp_invs {K' : Kd} {b' : Nat × Nat} {idx n : Nat} {As S0 : List AV} (hS0 : S = As.reverse ++ S0) (hd : decode K.2.1 pc = .ok (.invokestatic idx, 3)) (hm : MK K' n) (hst : Cond.static K'.1 ∈ gdT) (hl : Cond.methodLink K.1.cls idx K'.1 ∈ gdT) (hn : As.length = n) (hrm : RMK K K' b b') (hcat : catS S0 ≤ 8)
    (hcl : Cl X K' As h (fun r h' => Wp X K (pc + 3) L (pushR r S0) h' b' Q)) : Wp X K pc L S h b Q :=
  fun p l e R s m args below meth c D E A ad0 n0 Z C hz ad ca H locs cells slots ls hH hS hE hL hO hls hc hs => by
    subst hS0
    have hOA : okS h.length As := fun v hv => hO v (List.mem_append_left _ (List.mem_reverse.mpr hv))
    have hOS : okS h.length S0 := fun v hv => hO v (List.mem_append_right _ hv)
    have fr := C.2.2.2.2.2.2.2.2.2.1
    have lo := C.2.2.2.2.2.2.2.2.2.2
    obtain ⟨m1, m2, m3, m4⟩ := hrm
    refine wp_run (K' := K') (b' := b') (av := (As.map (cvV E ad)).toArray) (ca := ca) C hz ?_ hS hE hL hOS hls hc hs m3 m4
    refine va_runS (As := As.map (cvV E ad)) (n := n) ⟨C.1, C.2.1, C.2.2.1, C.2.2.2.1, C.2.2.2.2.1⟩ (hcl l D E A ad ca) ⟨callB_of n C.2.2.2.2.1 (wsK_good hm) rfl rfl rfl (C.2.2.2.2.1 _ hm.2.1) (C.2.2.2.2.1 _ hl) hm.2.2 ⟨Nat.le_trans m1 fr, Nat.le_trans m2 lo⟩, C.2.2.2.2.1 _ hst⟩ ⟨Pc_blind, Pc_pre C hH hS hOA⟩ rfl (by rw [List.length_map]; exact hn) hls.1.1 (by rw [List.map_append, List.map_reverse]) (lv_room (by rw [catS_ok]; exact hcat)) hd ⟨by show _ + K'.2.2.2.2.2.1 ≤ _; omega, by show _ + K'.2.2.2.2.2.2 ≤ _; omega⟩
theorem wp_invv {K' : Kd} {b' : Nat × Nat} {idx n i ci : Nat} {q : vw_C} {fs : List AV} {As S0 : List AV} (hS0 : S = As.reverse ++ vR i :: S0) (hd : decode K.2.1 pc = .ok (.invokevirtual idx, 3)) (hm : MK K' n) (hin : Cond.instanceMethod K'.1 ∈ gdT) (hse : Cond.selects K'.1.cls K'.1 K'.1 ∈ gdT) (hl : Cond.methodLink K.1.cls idx K'.1 ∈ gdT) (hn : As.length = n) (hrm : RMK K K' b b') (hcat : catS S0 ≤ 8)
    (hi : h[i]? = some (oO ci fs)) (hci : vwCl[ci]? = some q) (hq : q.1 = K'.1.cls)
    (hcl : Cl X K' (vR i :: As) h (fun r h' => Wp X K (pc + 3) L (pushR r S0) h' b' Q)) : Wp X K pc L S h b Q :=
  fun p l e R s m args below meth c D E A ad0 n0 Z C hz ad ca H locs cells slots ls hH hS hE hL hO hls hc hs => by
    subst hS0
    have hOA : okS h.length (vR i :: As) := fun v hv => hO v (by
      rcases List.mem_cons.mp hv with q | q
      · rw [q]; exact List.mem_append_right _ List.mem_cons_self
      · exact List.mem_append_left _ (List.mem_reverse.mpr q))
    have hOS : okS h.length S0 := fun v hv => hO v (List.mem_append_right _ (List.mem_cons_of_mem _ hv))
    have fr := C.2.2.2.2.2.2.2.2.2.1
    have lo := C.2.2.2.2.2.2.2.2.2.2
    obtain ⟨m1, m2, m3, m4⟩ := hrm
    have hrc := va_recv C.2.2.2.2.2.2.1 hH.1 hci (wsO_get (E := E) (ad := ad) (ca := ca) hi)
    rw [hq] at hrc
    refine wp_run (K' := K') (b' := b') (av := ((vR i :: As).map (cvV E ad)).toArray) (ca := ca) C hz ?_ hS hE hL hOS hls hc hs m3 m4
    refine va_runV (C := K'.1.cls) (b := ad i) (As := As.map (cvV E ad)) (n := n) ⟨C.1, C.2.1, C.2.2.1, C.2.2.2.1, C.2.2.2.2.1⟩ (hcl l D E A ad ca) ⟨callB_of n C.2.2.2.2.1 (wsK_good hm) rfl rfl rfl (C.2.2.2.2.1 _ hm.2.1) (C.2.2.2.2.1 _ hl) hm.2.2 ⟨Nat.le_trans m1 fr, Nat.le_trans m2 lo⟩, C.2.2.2.2.1 _ hin, C.2.2.2.2.1 _ hse⟩ ⟨Pc_blind, hrc, Pc_pre C hH hS hOA⟩ rfl (by rw [List.length_map]; exact hn) hls.1.1 (by rw [List.map_append, List.map_reverse]; rfl) (lv_room (by rw [catS_ok]; exact hcat)) hd ⟨by show _ + K'.2.2.2.2.2.1 ≤ _; omega, by show _ + K'.2.2.2.2.2.2 ≤ _; omega⟩
/-- a text's method -/
theorem wp_invt {K' : Kd} {b' : Nat × Nat} {idx n k : Nat} {As S0 : List AV} (hS0 : S = As.reverse ++ vX (10 + k) :: S0) (hk : k < 8) (hd : decode K.2.1 pc = .ok (.invokevirtual idx, 3)) (hm : MK K' n) (hin : Cond.instanceMethod K'.1 ∈ gdT) (hse : Cond.selects K'.1.cls K'.1 K'.1 ∈ gdT) (hl : Cond.methodLink K.1.cls idx K'.1 ∈ gdT) (hn : As.length = n) (hrm : RMK K K' b b') (hcat : catS S0 ≤ 8) (hq : "java/lang/String" = K'.1.cls)
    (hcl : Cl X K' (vX (10 + k) :: As) h (fun r h' => Wp X K (pc + 3) L (pushR r S0) h' b' Q)) : Wp X K pc L S h b Q :=
  fun p l e R s m args below meth c D E A ad0 n0 Z C hz ad ca H locs cells slots ls hH hS hE hL hO hls hc hs => by
    subst hS0
    have hOA : okS h.length (vX (10 + k) :: As) := fun v hv => hO v (by
      rcases List.mem_cons.mp hv with q | q
      · rw [q]; exact List.mem_append_right _ List.mem_cons_self
      · exact List.mem_append_left _ (List.mem_reverse.mpr q))
    have hOS : okS h.length S0 := fun v hv => hO v (List.mem_append_right _ (List.mem_cons_of_mem _ hv))
    have fr := C.2.2.2.2.2.2.2.2.2.1
    have lo := C.2.2.2.2.2.2.2.2.2.2
    obtain ⟨m1, m2, m3, m4⟩ := hrm
    have hrc := vk_recv C.2.2.2.2.2.2.2.1.2.2.2.1 hk hS
    rw [hq] at hrc
    refine wp_run (K' := K') (b' := b') (av := ((vX (10 + k) :: As).map (cvV E ad)).toArray) (ca := ca) C hz ?_ hS hE hL hOS hls hc hs m3 m4
    refine va_runV (C := K'.1.cls) (b := E (10 + k)) (As := As.map (cvV E ad)) (n := n) ⟨C.1, C.2.1, C.2.2.1, C.2.2.2.1, C.2.2.2.2.1⟩ (hcl l D E A ad ca) ⟨callB_of n C.2.2.2.2.1 (wsK_good hm) rfl rfl rfl (C.2.2.2.2.1 _ hm.2.1) (C.2.2.2.2.1 _ hl) hm.2.2 ⟨Nat.le_trans m1 fr, Nat.le_trans m2 lo⟩, C.2.2.2.2.1 _ hin, C.2.2.2.2.1 _ hse⟩ ⟨Pc_blind, hrc, Pc_pre C hH hS hOA⟩ rfl (by rw [List.length_map]; exact hn) hls.1.1 (by rw [List.map_append, List.map_reverse]; rfl) (lv_room (by rw [catS_ok]; exact hcat)) hd ⟨by show _ + K'.2.2.2.2.2.1 ≤ _; omega, by show _ + K'.2.2.2.2.2.2 ≤ _; omega⟩
/-- a constructor -/
theorem wp_invi {K' : Kd} {b' : Nat × Nat} {idx n i : Nat} {As S0 : List AV} (hS0 : S = As.reverse ++ vR i :: S0) (hd : decode K.2.1 pc = .ok (.invokespecial idx, 3)) (hm : MK K' n) (hin : Cond.instanceMethod K'.1 ∈ gdT) (hnm : K'.1.name = "<init>") (hrt : K'.2.2.2.1 = none) (hl : Cond.methodLink K.1.cls idx K'.1 ∈ gdT ∨ ∃ host, Cond.methodLinkNest K.1.cls idx K'.1 host ∈ nwT) (hn : As.length = n) (hrm : RMK K K' b b') (hcat : catS S0 ≤ 8)
    (hcl : Cl X K' (vR i :: As) h (fun r h' => Wp X K (pc + 3) L (pushR r S0) h' b' Q)) : Wp X K pc L S h b Q :=
  fun p l e R s m args below meth c D E A ad0 n0 Z C hz ad ca H locs cells slots ls hH hS hE hL hO hls hc hs => by
    subst hS0
    have hOA : okS h.length (vR i :: As) := fun v hv => hO v (by
      rcases List.mem_cons.mp hv with q | q
      · rw [q]; exact List.mem_append_right _ List.mem_cons_self
      · exact List.mem_append_left _ (List.mem_reverse.mpr q))
    have hOS : okS h.length S0 := fun v hv => hO v (List.mem_append_right _ (List.mem_cons_of_mem _ hv))
    have fr := C.2.2.2.2.2.2.2.2.2.1
    have lo := C.2.2.2.2.2.2.2.2.2.2
    obtain ⟨m1, m2, m3, m4⟩ := hrm
    refine wp_run (K' := K') (b' := b') (av := ((vR i :: As).map (cvV E ad)).toArray) (ca := ca) C hz ?_ hS hE hL hOS hls hc hs m3 m4
    have hws : wsK K' = Cond.code K'.1 K'.2.1 K'.2.2.1 none :: gdT := by unfold wsK; rw [hrt]
    rcases hl with hl | ⟨host, hl⟩
    · exact va_runI (b := ad i) (As := As.map (cvV E ad)) (n := n) (bytes := K'.2.1) (maxL := K'.2.2.1) ⟨C.1, C.2.1, C.2.2.1, C.2.2.2.1, C.2.2.2.2.1⟩ (hcl l D E A ad ca) ⟨callB_of n C.2.2.2.2.1 (wsK_good hm) hws rfl rfl (C.2.2.2.2.1 _ hm.2.1) (C.2.2.2.2.1 _ hl) hm.2.2 ⟨Nat.le_trans m1 fr, Nat.le_trans m2 lo⟩, hnm, C.2.2.2.2.1 _ hin⟩ ⟨Pc_blind, Pc_pre C hH hS hOA⟩ rfl (by rw [List.length_map]; exact hn) hls.1.1 (by rw [List.map_append, List.map_reverse]; rfl) (lv_room (by rw [catS_ok]; exact hcat)) hd ⟨by show _ + K'.2.2.2.2.2.1 ≤ _; omega, by show _ + K'.2.2.2.2.2.2 ≤ _; omega⟩
    · exact va_runIN (b := ad i) (As := As.map (cvV E ad)) (n := n) (bytes := K'.2.1) (maxL := K'.2.2.1) ⟨C.1, C.2.1, C.2.2.1, C.2.2.2.1, C.2.2.2.2.1⟩ (hcl l D E A ad ca) ⟨va_cnB n C.2.2.2.2.1 (wsK_good hm) hws rfl rfl (C.2.2.2.2.2.2.2.1.2.2.2.2.2.2.1 _ hl) (C.2.2.2.2.1 _ hm.2.1) hm.2.2 ⟨Nat.le_trans m1 fr, Nat.le_trans m2 lo⟩, hnm, C.2.2.2.2.1 _ hin⟩ ⟨Pc_blind, Pc_pre C hH hS hOA⟩ rfl (by rw [List.length_map]; exact hn) hls.1.1 (by rw [List.map_append, List.map_reverse]; rfl) (lv_room (by rw [catS_ok]; exact hcat)) hd ⟨by show _ + K'.2.2.2.2.2.1 ≤ _; omega, by show _ + K'.2.2.2.2.2.2 ≤ _; omega⟩
theorem wp_obj {idx i : Nat} (hd : decode K.2.1 pc = .ok (.invokespecial idx, 3)) (hl : Cond.methodLink K.1.cls idx objectInit ∈ gdT) (hin : Cond.instanceMethod objectInit ∈ gdT) (hco : Cond.code objectInit ⟨#[0xb1]⟩ 1 none ∈ gdT) (hfr : 1 ≤ K.2.2.2.2.1.1) (hlo : catS S + 12 ≤ K.2.2.2.2.1.2) (k : Wp X K (pc + 3) L S h b Q) : Wp X K pc L (vR i :: S) h b Q :=
  fun p l e R s m args below meth c D E A ad0 n0 Z C hz ad ca H locs cells slots ls hH hS hE hL hO hls hc hs =>
    W.objInit C.1 C.2.1 C.2.2.2.1 (C.2.2.2.2.1 _ hl) (C.2.2.2.2.1 _ hin) (C.2.2.2.2.1 _ hco) rfl (hls.1.1.trans C.2.2.1.symm) rfl hd (Nat.le_trans hfr C.2.2.2.2.2.2.2.2.2.1) (by
      rw [catS_ok]
      show 2 * 0 + _ + 12 ≤ _
      have := C.2.2.2.2.2.2.2.2.2.2
      omega) (k p l e R s m args below meth c D E A ad0 n0 Z C hz ad ca H locs cells slots ls hH hS hE hL (okS_t hO) hls hc hs)
/-- a copy among arrays of ints -/
def cpI (f g : Int → Int) (sp dp n : Int) : Int → Int := fun k => if dp ≤ k ∧ k < dp + n then f (sp + (k - dp)) else g k
theorem cp_32 {f g : Int → Int} {sp dp n : Int} {a q c : Nat} (h1 : (a : Int) = sp) (h2 : (q : Int) = dp) (h3 : (c : Int) = n) : va_cpy (fun i : Nat => Int32.ofInt (f i)) (fun i : Nat => Int32.ofInt (g i)) a q c = fun i : Nat => Int32.ofInt (cpI f g sp dp n i) := by
  funext i
  unfold va_cpy cpI
  by_cases e : q ≤ i ∧ i < q + c
  · rw [if_pos e, if_pos ⟨by omega, by omega⟩]
    show Int32.ofInt (f ((a + (i - q) : Nat) : Int)) = _
    rw [show ((a + (i - q) : Nat) : Int) = sp + ((i : Int) - dp) by omega]
  · rw [if_neg e, if_neg (fun z => e ⟨by omega, by omega⟩)]
theorem r32_nn {z : Int} (h0 : 0 ≤ z) (h1 : z < 2147483648) : ¬ Int32.ofInt z < 0 ∧ ((Int32.ofInt z).toNatClampNeg : Int) = z := by
  have e : (Int32.ofInt z).toInt = z := r32_to ⟨by omega, h1⟩
  refine ⟨fun q => ?_, ?_⟩
  · have := Int32.lt_iff_toInt_lt.mp q
    rw [e] at this
    have e2 : (0 : Int32).toInt = 0 := rfl
    omega
  · show ((Int32.ofInt z).toInt.toNat : Int) = z
    rw [e]
    omega
def cpW (own : String) (idx : Nat) : Prop := Cond.methodLink own idx arraycopyName ∈ gdT ∧ Cond.native arraycopyName ∈ gdT ∧ Cond.static arraycopyName ∈ gdT ∧ Cond.initialized "java/lang/System" ∈ gdT
theorem wp_copyi {idx i j n0 n1 : Nat} {f g : Int → Int} {sp dp n : Int} (hd : decode K.2.1 pc = .ok (.invokestatic idx, 3)) (hw : cpW K.1.cls idx) (hi : h[i]? = some (oI n0 f)) (hj : h[j]? = some (oI n1 g)) (b0 : n0 < 2147483648) (b1 : n1 < 2147483648) (h1 : 0 ≤ sp) (h2 : 0 ≤ dp) (h3 : 0 ≤ n) (h4 : sp + n ≤ n0) (h5 : dp + n ≤ n1)
    (hfr : 1 ≤ K.2.2.2.2.1.1) (hlo : catS S + (nativeFrameWords "java/lang/System" "arraycopy" 5 + 11) ≤ K.2.2.2.2.1.2) (k : Wp X K (pc + 3) L S (h.set j (oI n1 (cpI f g sp dp n))) b Q) : Wp X K pc L (vI n :: vI dp :: vR j :: vI sp :: vR i :: S) h b Q :=
  fun p l e R s m args below meth c D E A ad0 n0' Z C hz ad ca H locs cells slots ls hH hS hE hL hO hls hc hs => by
    obtain ⟨a1, a2⟩ := r32_nn h1 (by omega)
    obtain ⟨a3, a4⟩ := r32_nn h2 (by omega)
    obtain ⟨a5, a6⟩ := r32_nn h3 (by omega)
    have hK2 : va_K D vwCl [(ca i, .int), (ca j, .int)] s := (K1 C.2.2.2.2.2.2.1 (hH.2.2.1 i _ .int hi rfl)).app (K1 C.2.2.2.2.2.2.1 (hH.2.2.1 j _ .int hj rfl))
    refine va_copyi (D := D) (ws := wsO E ad ca h) (tys := [(ca i, .int), (ca j, .int)]) (ty := .int) C.1 C.2.1 (C.2.2.1.trans hls.1.1.symm) C.2.2.2.1 (C.2.2.2.2.1 _ hw.1) (C.2.2.2.2.1 _ hw.2.1) (C.2.2.2.2.1 _ hw.2.2.1) (C.2.2.2.2.1 _ hw.2.2.2) hK2 hH.1 hH.2.1 hS i j 0 1 (wsO_get hi) (wsO_get hj) rfl rfl rfl a1 a3 a5 (by omega) (by omega) (fun _ _ => rfl) (Nat.le_trans hfr C.2.2.2.2.2.2.2.2.2.1) (by
      rw [catS_ok]
      have := C.2.2.2.2.2.2.2.2.2.2
      omega) hd (fun H1 locs1 q1 q2 q3 => ?_)
    rw [cp_32 a2 a4 a6] at q1 q2
    exact k p l e R s m args below meth c D E A ad0 n0' Z C hz ad ca H1 locs1 cells slots ls (hH.set (c' := oI n1 (cpI f g sp dp n)) hj rfl trivial q1 q2) q3 hE.set (by rw [List.length_set]; exact hL) (by rw [List.length_set]; exact okS_t (okS_t (okS_t (okS_t (okS_t hO))))) hls hc hs
end INV
