/-! a copy out of an array that is there from the start -/
section CX
variable {X : XS} {K : Kd} {pc : Nat} {L : List (Option AV)} {S : List AV} {h : AH} {b b0 : Nat × Nat} {Q : Option AV → AH → Prop}
theorem nn_to {z : Int32} (hz : ¬ z < 0) : z.toInt = (z.toNatClampNeg : Int) := by
  have h0 : (0 : Int) ≤ z.toInt := by simpa using Int32.le_iff_toInt_le.mp (Int32.not_lt.mp hz)
  show z.toInt = ((z.toInt.toNat : Nat) : Int)
  omega
theorem wp_copyx (x : Nat) {idx j n1 : Nat} {g : Int → Int} {sp dp n : Int} (hd : decode K.2.1 pc = .ok (.invokestatic idx, 3)) (hw : cpW K.1.cls idx) (hx : x < 6) (hj : h[j]? = some (oI n1 g)) (b1 : n1 < 2147483648) (h1 : 0 ≤ sp) (h2 : 0 ≤ dp) (h3 : 0 ≤ n) (h4 : sp + n ≤ (xsC x).length) (h5 : dp + n ≤ n1)
    (hfr : 1 ≤ K.2.2.2.2.1.1) (hlo : catS S + (nativeFrameWords "java/lang/System" "arraycopy" 5 + 11) ≤ K.2.2.2.2.1.2) (k : Wp X K (pc + 3) L S (h.set j (oI n1 (cpI (xv x) g sp dp n))) b Q) : Wp X K pc L (vI n :: vI dp :: vR j :: vI sp :: vX x :: S) h b Q :=
  fun p l e R s m args below meth c D E A ad0 n0' Z C hz ad ca H locs cells slots ls hH hS hE hL hO hls hc hs => by
    have hlen : (xsC x).length ≤ 7 := by
      match x, hx with
      | 0, _ => decide
      | 1, _ => decide
      | 2, _ => decide
      | 3, _ => decide
      | 4, _ => decide
      | 5, _ => decide
    obtain ⟨a1, a2⟩ := r32_nn h1 (by omega)
    obtain ⟨a3, a4⟩ := r32_nn h2 (by omega)
    obtain ⟨a5, a6⟩ := r32_nn h3 (by omega)
    have hK2 : va_K D vwCl [(ca j, .int)] s := K1 C.2.2.2.2.2.2.1 (hH.2.2.1 j _ .int hj rfl)
    obtain ⟨src, s1, ⟨s2, k0, s3, cm0, s4⟩, s5, s6, -, s7, s8⟩ := (C.2.2.2.2.2.2.2.1.1 x hx).2
    have hsrc : H[E x]? = some src := by rw [hS.2.1 _ (Array.getElem?_eq_some_iff.mp s1).1 s8]; exact s1
    have hdst : H[ad j]? = some (vp_cell (ca j) (n1, .inl fun i : Nat => Int32.ofInt (g i))) := hH.1 j _ (wsO_get hj)
    obtain ⟨-, k1, s9, cm1, s10⟩ := (hK2.2 0 _ rfl).1 n1 (fun i : Nat => .int (Int32.ofInt (g i)))
    have hAj : A (ad j) := hH.2.1.2 j _ (wsO_get hj)
    have ev : ∀ i : Nat, i < (Int32.ofInt n).toNatClampNeg → src.slots[(Int32.ofInt sp).toNatClampNeg + i]? = some (.int (Int32.ofInt ((xsC x).getD ((Int32.ofInt sp).toNatClampNeg + i) 0))) := fun i hi => s7 _ (by omega)
    intro T hT Y
    obtain ⟨vm', Y', step⟩ := Y.arraycopy C.1 C.2.2.2.1 (C.2.2.2.2.1 _ hw.1) (C.2.2.2.2.1 _ hw.2.1) (C.2.2.2.2.1 _ hw.2.2.1) (C.2.2.2.2.1 _ hw.2.2.2) (src := E x) (dst := ad j) (cs := src) (cd := vp_cell (ca j) (n1, .inl fun i : Nat => Int32.ofInt (g i))) (srcPos := Int32.ofInt sp) (destPos := Int32.ofInt dp) (n := Int32.ofInt n) (by rw [hT]; exact hsrc) (by rw [hT]; exact hdst)
      s2 (fun _ q => by cases q) s5 (fun q => by cases q) s3 s9 s4 s10 (by simp [refKind]) a1 a3 a5
      (by rw [nn_to a1, nn_to a5]; omega)
      (by rw [nn_to a3, nn_to a5]; show ¬ _ > ((arrV (ca j) n1 (fun i : Nat => .int (Int32.ofInt (g i)))).slots.size : Int); rw [arrV_size]; omega)
      (fun _ _ i hi => by
        have q : src.slots.getD ((Int32.ofInt sp).toNatClampNeg + i) .null = .int (Int32.ofInt ((xsC x).getD ((Int32.ofInt sp).toNatClampNeg + i) 0)) := by
          rw [Array.getD_eq_getD_getElem?, ev i hi]
          rfl
        rw [q]
        exact ⟨rfl, trivial⟩)
      (g := F0 m pc ls ((vI n :: vI dp :: vR j :: vI sp :: vX x :: S).map (cvV E ad))) rfl (hls.1.1.trans C.2.2.1.symm) (rest := S.map (cvV E ad)) rfl (by rw [C.2.1]; exact hd) (Nat.le_trans hfr C.2.2.2.2.2.2.2.2.2.1) (by
        show 2 * 0 + _ + _ ≤ _
        rw [catS_ok]
        have := C.2.2.2.2.2.2.2.2.2.2
        omega)
    have e1 : copied src (vp_cell (ca j) (n1, .inl fun i : Nat => Int32.ofInt (g i))) (Int32.ofInt sp) (Int32.ofInt dp) (Int32.ofInt n) = vp_cell (ca j) (n1, .inl fun i : Nat => Int32.ofInt (cpI (xv x) g sp dp n i)) := by
      have q := cp_32 (f := xv x) (g := g) a2 a4 a6
      have q2 := va_copiedX (fun z => .int z) src (ca j) (dp := (Int32.ofInt dp).toNatClampNeg) (n1 := n1) (fun i : Nat => Int32.ofInt ((xsC x).getD i 0)) (fun i : Nat => Int32.ofInt (g i)) s7 (sp := (Int32.ofInt sp).toNatClampNeg) (n := (Int32.ofInt n).toNatClampNeg) (by omega)
      rw [← q]
      exact q2
    rw [e1] at Y' step
    have z1 : ((T.setVm vm').setCell (ad j) (vp_cell (ca j) (n1, .inl fun i : Nat => Int32.ofInt (cpI (xv x) g sp dp n i)))).heap = H.setIfInBounds (ad j) (vp_cell (ca j) (n1, .inl fun i : Nat => Int32.ofInt (cpI (xv x) g sp dp n i))) := by rw [← hT]; rfl
    have hl : ad j < H.size := (Array.getElem?_eq_some_iff.mp hdst).1
    have oq : ∀ q : Nat, q ≠ ad j → (H.setIfInBounds (ad j) (vp_cell (ca j) (n1, .inl fun i : Nat => Int32.ofInt (cpI (xv x) g sp dp n i))))[q]? = H[q]? := fun q hq => by simp [Array.getElem?_setIfInBounds, Ne.symm hq]
    have hcell : (H.setIfInBounds (ad j) (vp_cell (ca j) (n1, .inl fun i : Nat => Int32.ofInt (cpI (xv x) g sp dp n i))))[ad j]? = some (vp_cell (ca j) (n1, .inl fun i : Nat => Int32.ofInt (cpI (xv x) g sp dp n i))) := by simp [Array.getElem?_setIfInBounds, hl]
    obtain ⟨t, t1, t2⟩ := k p l e R s m args below meth c D E A ad0 n0' Z C hz ad ca _ _ cells slots ls (hH.set (c' := oI n1 (cpI (xv x) g sp dp n)) hj rfl trivial (hH.1.set hH.2.1 (wsO_get hj) hcell oq) (hH.2.1.set (wsO_get hj)))
      ⟨by simp; exact hS.1, fun q g1 g2 => by rw [oq q (fun e => g2 (by rw [e]; exact hAj))]; exact hS.2.1 q g1 g2, fun q hq => by
        rcases List.mem_append.mp hq with w | w
        · exact hS.2.2 q w
        · obtain ⟨z, -, hz⟩ := List.mem_map.mp w
          rw [← hz]
          exact hAj⟩ hE.set (by rw [List.length_set]; exact hL) (by rw [List.length_set]; exact okS_t (okS_t (okS_t (okS_t (okS_t hO))))) hls hc hs _ z1 Y'
    exact ⟨t, step t t1, t2⟩
end CX
