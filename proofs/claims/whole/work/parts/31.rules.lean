section RULES
variable {X : XS} {K : Kd} {pc : Nat} {L : List (Option AV)} {S : List AV} {h : AH} {b : Nat × Nat} {Q : Option AV → AH → Prop}
theorem okS_c {n : Nat} {v : AV} {S : List AV} (h1 : okV n v) (h2 : okS n S) : okS n (v :: S) := List.forall_mem_cons.mpr ⟨h1, h2⟩
theorem okS_h {n : Nat} {v : AV} {S : List AV} (h : okS n (v :: S)) : okV n v := (List.forall_mem_cons.mp h).1
theorem okS_t {n : Nat} {v : AV} {S : List AV} (h : okS n (v :: S)) : okS n S := (List.forall_mem_cons.mp h).2
abbrev r32 (z : Int) : Prop := -2147483648 ≤ z ∧ z < 2147483648
abbrev r64 (z : Int) : Prop := -9223372036854775808 ≤ z ∧ z < 9223372036854775808
theorem r32_to {z : Int} (h : r32 z) : (Int32.ofInt z).toInt = z := Int32.toInt_ofInt_of_le (by have := h.1; omega) (by have := h.2; omega)
theorem r64_to {z : Int} (h : r64 z) : (Int64.ofInt z).toInt = z := Int64.toInt_ofInt_of_le (by have := h.1; omega) (by have := h.2; omega)
theorem r32_le {x y : Int} (hx : r32 x) (hy : r32 y) : Int32.ofInt x ≤ Int32.ofInt y ↔ x ≤ y := by rw [Int32.le_iff_toInt_le, r32_to hx, r32_to hy]
theorem r32_lt {x y : Int} (hx : r32 x) (hy : r32 y) : Int32.ofInt x < Int32.ofInt y ↔ x < y := by rw [Int32.lt_iff_toInt_lt, r32_to hx, r32_to hy]
theorem r32_eq {x y : Int} (hx : r32 x) (hy : r32 y) : Int32.ofInt x = Int32.ofInt y ↔ x = y := by rw [← Int32.toInt_inj, r32_to hx, r32_to hy]
theorem r32_0 : r32 0 := ⟨by omega, by omega⟩
theorem r32_z : (0 : Int32) = Int32.ofInt 0 := rfl
theorem r32_in {z : Int} {n : Nat} (h0 : 0 ≤ z) (h1 : z < n) (hn : (n : Int) ≤ 2147483647) : vp_in (Int32.ofInt z) n ∧ ((Int32.ofInt z).toNatClampNeg : Int) = z := by
  have e : (Int32.ofInt z).toInt = z := r32_to ⟨by omega, by omega⟩
  refine ⟨vp_in_iff.mpr ⟨by rw [e]; exact h0, by rw [e]; exact h1⟩, ?_⟩
  show ((Int32.ofInt z).toInt.toNat : Int) = z
  rw [e]
  omega
/-- a step that touches the stack alone -/
theorem wp_st {pc' : Nat} {S' : List AV} (hok : ∀ n, okS n S → okS n S')
    (hw : ∀ {p : Program} {l : Launch} {e : Env} {R : Room} {s : State} {m : MethodId} {args : Array Value} {below : List Frame} {meth : Method} {c : Code} {H : Heap} {locs : List Loc} {cells slots : Nat} {Z : State → Prop} {ls : Array Slot} {E ad : Nat → Nat}, p.tables.exec = Jvm.exec → c.code = K.2.1 → s.vm.findClass K.1.cls = some m.cls → (∀ w ∈ gdT, w.before args s = true) →
      W p l e R s m args below meth c H locs cells slots Z (F0 m pc' ls (S'.map (cvV E ad))) → W p l e R s m args below meth c H locs cells slots Z (F0 m pc ls (S.map (cvV E ad))))
    (k : Wp X K pc' L S' h b Q) : Wp X K pc L S h b Q :=
  fun p l e R s m args below meth c D E A ad0 n0 Z C hz ad ca H locs cells slots ls hH hS hE hL hO hl hc hs =>
    hw C.1 C.2.1 C.2.2.2.1 C.2.2.2.2.1 (k p l e R s m args below meth c D E A ad0 n0 Z C hz ad ca H locs cells slots ls hH hS hE hL (hok _ hO) hl hc hs)
/-- a read of a local -/
theorem wp_ld {pc' i : Nat} {v : AV} (hi : L[i]? = some (some v))
    (hw : ∀ {p : Program} {l : Launch} {e : Env} {R : Room} {s : State} {m : MethodId} {args : Array Value} {below : List Frame} {meth : Method} {c : Code} {H : Heap} {locs : List Loc} {cells slots : Nat} {Z : State → Prop} {ls : Array Slot} {E ad : Nat → Nat}, p.tables.exec = Jvm.exec → c.code = K.2.1 → ls[i]? = some (.val (cvV E ad v)) →
      W p l e R s m args below meth c H locs cells slots Z (F0 m pc' ls (cvV E ad v :: S.map (cvV E ad))) → W p l e R s m args below meth c H locs cells slots Z (F0 m pc ls (S.map (cvV E ad))))
    (k : Wp X K pc' L (v :: S) h b Q) : Wp X K pc L S h b Q :=
  fun p l e R s m args below meth c D E A ad0 n0 Z C hz ad ca H locs cells slots ls hH hS hE hL hO hl hc hs =>
    hw C.1 C.2.1 (hl.2 i v hi) (k p l e R s m args below meth c D E A ad0 n0 Z C hz ad ca H locs cells slots ls hH hS hE hL (okS_c (hL i v hi) hO) hl hc hs)
theorem wp_iadd {x y : Int} (hd : decode K.2.1 pc = .ok (.iadd, 1)) (k : Wp X K (pc + 1) L (vI (x + y) :: S) h b Q) : Wp X K pc L (vI y :: vI x :: S) h b Q :=
  wp_st (fun n h => okS_c (by exact trivial) (okS_t (okS_t h))) (fun hx hb _ _ k => lv_iadd hx hb hd (by rw [← Int32.ofInt_add]; exact k)) k
theorem wp_isub {x y : Int} (hd : decode K.2.1 pc = .ok (.isub, 1)) (k : Wp X K (pc + 1) L (vI (x - y) :: S) h b Q) : Wp X K pc L (vI y :: vI x :: S) h b Q :=
  wp_st (fun n h => okS_c (by exact trivial) (okS_t (okS_t h))) (fun hx hb _ _ k => lv_isub hx hb hd (by rw [← Int32.ofInt_sub]; exact k)) k
theorem wp_imul {x y : Int} (hd : decode K.2.1 pc = .ok (.imul, 1)) (k : Wp X K (pc + 1) L (vI (x * y) :: S) h b Q) : Wp X K pc L (vI y :: vI x :: S) h b Q :=
  wp_st (fun n h => okS_c (by exact trivial) (okS_t (okS_t h))) (fun hx hb _ _ k => lv_imul hx hb hd (by rw [← Int32.ofInt_mul]; exact k)) k
theorem wp_ladd {x y : Int} (hd : decode K.2.1 pc = .ok (.ladd, 1)) (k : Wp X K (pc + 1) L (vL (x + y) :: S) h b Q) : Wp X K pc L (vL y :: vL x :: S) h b Q :=
  wp_st (fun n h => okS_c (by exact trivial) (okS_t (okS_t h))) (fun hx hb _ _ k => lv_ladd hx hb hd (by rw [← Int64.ofInt_add]; exact k)) k
theorem wp_lsub {x y : Int} (hd : decode K.2.1 pc = .ok (.lsub, 1)) (k : Wp X K (pc + 1) L (vL (x - y) :: S) h b Q) : Wp X K pc L (vL y :: vL x :: S) h b Q :=
  wp_st (fun n h => okS_c (by exact trivial) (okS_t (okS_t h))) (fun hx hb _ _ k => lv_lsub hx hb hd (by rw [← Int64.ofInt_sub]; exact k)) k
theorem wp_lmul {x y : Int} (hd : decode K.2.1 pc = .ok (.lmul, 1)) (k : Wp X K (pc + 1) L (vL (x * y) :: S) h b Q) : Wp X K pc L (vL y :: vL x :: S) h b Q :=
  wp_st (fun n h => okS_c (by exact trivial) (okS_t (okS_t h))) (fun hx hb _ _ k => lv_lmul hx hb hd (by rw [← Int64.ofInt_mul]; exact k)) k
theorem wp_ineg {x : Int} (hd : decode K.2.1 pc = .ok (.ineg, 1)) (k : Wp X K (pc + 1) L (vI (-x) :: S) h b Q) : Wp X K pc L (vI x :: S) h b Q :=
  wp_st (fun n h => okS_c (by exact trivial) (okS_t h)) (fun hx hb _ _ k => lv_ineg hx hb hd (by rw [← Int32.ofInt_neg]; exact k)) k
theorem imin : (Int32.minValue.toInt = -2147483648) ∧ (Int32.maxValue.toInt = 2147483648 - 1) := ⟨by decide, by decide⟩
theorem ine0 {y : Int} (hy : 0 < y) (hy2 : r32 y) : ¬ Int32.ofInt y = 0 := fun q => by
  have e := congrArg Int32.toInt q
  rw [r32_to hy2] at e
  have e2 : (Int32.toInt 0) = 0 := rfl
  omega
theorem wp_idiv {x y : Int} (hd : decode K.2.1 pc = .ok (.idiv, 1)) (hx : r32 x) (hy : r32 y) (hp : 0 < y) (k : Wp X K (pc + 1) L (vI (x.tdiv y) :: S) h b Q) : Wp X K pc L (vI y :: vI x :: S) h b Q :=
  wp_st (fun n h => okS_c (by exact trivial) (okS_t (okS_t h))) (fun hx2 hb _ _ k => lv_idiv hx2 hb hd (ine0 hp hy) (by
    rw [← Int32.ofInt_tdiv (by rw [imin.1]; exact hx.1) (by rw [imin.2]; have := hx.2; omega) (by rw [imin.1]; exact hy.1) (by rw [imin.2]; have := hy.2; omega)]; exact k)) k
theorem wp_irem {x y : Int} (hd : decode K.2.1 pc = .ok (.irem, 1)) (hx : r32 x) (hy : r32 y) (hp : 0 < y) (k : Wp X K (pc + 1) L (vI (x.tmod y) :: S) h b Q) : Wp X K pc L (vI y :: vI x :: S) h b Q :=
  wp_st (fun n h => okS_c (by exact trivial) (okS_t (okS_t h))) (fun hx2 hb _ _ k => lv_irem hx2 hb hd (ine0 hp hy) (by
    rw [← Int32.ofInt_tdiv (by rw [imin.1]; exact hx.1) (by rw [imin.2]; have := hx.2; omega) (by rw [imin.1]; exact hy.1) (by rw [imin.2]; have := hy.2; omega), ← Int32.ofInt_mul, ← Int32.ofInt_sub, show x - x.tdiv y * y = x.tmod y by rw [Int.tmod_def, Int.mul_comm]]; exact k)) k
theorem lmin : (Int64.minValue.toInt = -9223372036854775808) ∧ (Int64.maxValue.toInt = 9223372036854775808 - 1) := ⟨by decide, by decide⟩
theorem lne0 {y : Int} (hy : 0 < y) (hy2 : r64 y) : ¬ Int64.ofInt y = 0 := fun q => by
  have e := congrArg Int64.toInt q
  rw [r64_to hy2] at e
  have e2 : (Int64.toInt 0) = 0 := rfl
  omega
theorem wp_ldiv {x y : Int} (hd : decode K.2.1 pc = .ok (.ldiv, 1)) (hx : r64 x) (hy : r64 y) (hp : 0 < y) (k : Wp X K (pc + 1) L (vL (x.tdiv y) :: S) h b Q) : Wp X K pc L (vL y :: vL x :: S) h b Q :=
  wp_st (fun n h => okS_c (by exact trivial) (okS_t (okS_t h))) (fun hx2 hb _ _ k => lv_ldiv hx2 hb hd (lne0 hp hy) (by
    rw [← Int64.ofInt_tdiv (by rw [lmin.1]; exact hx.1) (by rw [lmin.2]; have := hx.2; omega) (by rw [lmin.1]; exact hy.1) (by rw [lmin.2]; have := hy.2; omega)]; exact k)) k
theorem wp_lrem {x y : Int} (hd : decode K.2.1 pc = .ok (.lrem, 1)) (hx : r64 x) (hy : r64 y) (hp : 0 < y) (k : Wp X K (pc + 1) L (vL (x.tmod y) :: S) h b Q) : Wp X K pc L (vL y :: vL x :: S) h b Q :=
  wp_st (fun n h => okS_c (by exact trivial) (okS_t (okS_t h))) (fun hx2 hb _ _ k => lv_lrem hx2 hb hd (lne0 hp hy) (by
    rw [← Int64.ofInt_tdiv (by rw [lmin.1]; exact hx.1) (by rw [lmin.2]; have := hx.2; omega) (by rw [lmin.1]; exact hy.1) (by rw [lmin.2]; have := hy.2; omega), ← Int64.ofInt_mul, ← Int64.ofInt_sub, show x - x.tdiv y * y = x.tmod y by rw [Int.tmod_def, Int.mul_comm]]; exact k)) k
theorem wp_idivn {x y : Int} (hd : decode K.2.1 pc = .ok (.idiv, 1)) (hx : r32 x) (hy : r32 y) (hp : 0 < y) (h0 : 0 ≤ x) (k : Wp X K (pc + 1) L (vI (x / y) :: S) h b Q) : Wp X K pc L (vI y :: vI x :: S) h b Q :=
  wp_idiv hd hx hy hp (by rw [Int.tdiv_eq_ediv_of_nonneg h0]; exact k)
theorem wp_iremn {x y : Int} (hd : decode K.2.1 pc = .ok (.irem, 1)) (hx : r32 x) (hy : r32 y) (hp : 0 < y) (h0 : 0 ≤ x) (k : Wp X K (pc + 1) L (vI (x % y) :: S) h b Q) : Wp X K pc L (vI y :: vI x :: S) h b Q :=
  wp_irem hd hx hy hp (by rw [Int.tmod_eq_emod_of_nonneg h0]; exact k)
theorem wp_ldivn {x y : Int} (hd : decode K.2.1 pc = .ok (.ldiv, 1)) (hx : r64 x) (hy : r64 y) (hp : 0 < y) (h0 : 0 ≤ x) (k : Wp X K (pc + 1) L (vL (x / y) :: S) h b Q) : Wp X K pc L (vL y :: vL x :: S) h b Q :=
  wp_ldiv hd hx hy hp (by rw [Int.tdiv_eq_ediv_of_nonneg h0]; exact k)
theorem wp_lremn {x y : Int} (hd : decode K.2.1 pc = .ok (.lrem, 1)) (hx : r64 x) (hy : r64 y) (hp : 0 < y) (h0 : 0 ≤ x) (k : Wp X K (pc + 1) L (vL (x % y) :: S) h b Q) : Wp X K pc L (vL y :: vL x :: S) h b Q :=
  wp_lrem hd hx hy hp (by rw [Int.tmod_eq_emod_of_nonneg h0]; exact k)
theorem wp_iand {x y z : Int} (hd : decode K.2.1 pc = .ok (.iand, 1)) (hv : Int32.ofInt x &&& Int32.ofInt y = Int32.ofInt z) (k : Wp X K (pc + 1) L (vI z :: S) h b Q) : Wp X K pc L (vI y :: vI x :: S) h b Q :=
  wp_st (fun n h => okS_c (by exact trivial) (okS_t (okS_t h))) (fun hx hb _ _ k => lv_iand hx hb hd (by rw [hv]; exact k)) k
theorem wp_ior {x y z : Int} (hd : decode K.2.1 pc = .ok (.ior, 1)) (hv : Int32.ofInt x ||| Int32.ofInt y = Int32.ofInt z) (k : Wp X K (pc + 1) L (vI z :: S) h b Q) : Wp X K pc L (vI y :: vI x :: S) h b Q :=
  wp_st (fun n h => okS_c (by exact trivial) (okS_t (okS_t h))) (fun hx hb _ _ k => lv_ior hx hb hd (by rw [hv]; exact k)) k
theorem wp_ixor {x y z : Int} (hd : decode K.2.1 pc = .ok (.ixor, 1)) (hv : Int32.ofInt x ^^^ Int32.ofInt y = Int32.ofInt z) (k : Wp X K (pc + 1) L (vI z :: S) h b Q) : Wp X K pc L (vI y :: vI x :: S) h b Q :=
  wp_st (fun n h => okS_c (by exact trivial) (okS_t (okS_t h))) (fun hx hb _ _ k => lv_ixor hx hb hd (by rw [hv]; exact k)) k
theorem wp_land {x y z : Int} (hd : decode K.2.1 pc = .ok (.land, 1)) (hv : Int64.ofInt x &&& Int64.ofInt y = Int64.ofInt z) (k : Wp X K (pc + 1) L (vL z :: S) h b Q) : Wp X K pc L (vL y :: vL x :: S) h b Q :=
  wp_st (fun n h => okS_c (by exact trivial) (okS_t (okS_t h))) (fun hx hb _ _ k => lv_land hx hb hd (by rw [hv]; exact k)) k
theorem wp_lor {x y z : Int} (hd : decode K.2.1 pc = .ok (.lor, 1)) (hv : Int64.ofInt x ||| Int64.ofInt y = Int64.ofInt z) (k : Wp X K (pc + 1) L (vL z :: S) h b Q) : Wp X K pc L (vL y :: vL x :: S) h b Q :=
  wp_st (fun n h => okS_c (by exact trivial) (okS_t (okS_t h))) (fun hx hb _ _ k => lv_lor hx hb hd (by rw [hv]; exact k)) k
theorem wp_ishl {x y z : Int} (hd : decode K.2.1 pc = .ok (.ishl, 1)) (hv : Int32.ofInt x <<< (Int32.ofInt y &&& 31) = Int32.ofInt z) (k : Wp X K (pc + 1) L (vI z :: S) h b Q) : Wp X K pc L (vI y :: vI x :: S) h b Q :=
  wp_st (fun n h => okS_c (by exact trivial) (okS_t (okS_t h))) (fun hx hb _ _ k => lv_ishl hx hb hd (by rw [hv]; exact k)) k
theorem wp_ishr {x y z : Int} (hd : decode K.2.1 pc = .ok (.ishr, 1)) (hv : Int32.ofInt x >>> (Int32.ofInt y &&& 31) = Int32.ofInt z) (k : Wp X K (pc + 1) L (vI z :: S) h b Q) : Wp X K pc L (vI y :: vI x :: S) h b Q :=
  wp_st (fun n h => okS_c (by exact trivial) (okS_t (okS_t h))) (fun hx hb _ _ k => lv_ishr hx hb hd (by rw [hv]; exact k)) k
theorem wp_iushr {x y z : Int} (hd : decode K.2.1 pc = .ok (.iushr, 1)) (hv : ((Int32.ofInt x).toUInt32 >>> ((Int32.ofInt y).toUInt32 &&& Int32.toUInt32 31)).toInt32 = Int32.ofInt z) (k : Wp X K (pc + 1) L (vI z :: S) h b Q) : Wp X K pc L (vI y :: vI x :: S) h b Q :=
  wp_st (fun n h => okS_c (by exact trivial) (okS_t (okS_t h))) (fun hx hb _ _ k => lv_iushr hx hb hd hv k) k
theorem wp_i2l {x : Int} (hd : decode K.2.1 pc = .ok (.i2l, 1)) (hx : r32 x) (k : Wp X K (pc + 1) L (vL x :: S) h b Q) : Wp X K pc L (vI x :: S) h b Q :=
  wp_st (fun n h => okS_c (by exact trivial) (okS_t h)) (fun hx2 hb _ _ k => lv_i2l hx2 hb hd (Int32.toInt64_ofInt (by rw [imin.1]; exact hx.1) (by rw [imin.2]; have := hx.2; omega)) k) k
theorem wp_l2i {x : Int} (hd : decode K.2.1 pc = .ok (.l2i, 1)) (k : Wp X K (pc + 1) L (vI x :: S) h b Q) : Wp X K pc L (vL x :: S) h b Q :=
  wp_st (fun n h => okS_c (by exact trivial) (okS_t h)) (fun hx2 hb _ _ k => lv_l2i hx2 hb hd Int64.toInt32_ofInt k) k
theorem wp_lcmp {x y : Int} (hd : decode K.2.1 pc = .ok (.lcmp, 1)) (hx : r64 x) (hy : r64 y) (k : Wp X K (pc + 1) L (vI (if y < x then 1 else if x = y then 0 else -1) :: S) h b Q) : Wp X K pc L (vL y :: vL x :: S) h b Q :=
  wp_st (fun n h => okS_c (by exact trivial) (okS_t (okS_t h))) (fun hx2 hb _ _ k => W.lcmp hx2 hb hd (by
    have e : lg_cmp (Int64.ofInt x) (Int64.ofInt y) = Int32.ofInt (if y < x then 1 else if x = y then 0 else -1) := by
      unfold lg_cmp
      have e1 : (Int64.ofInt x > Int64.ofInt y) ↔ y < x := by rw [GT.gt, Int64.lt_iff_toInt_lt, r64_to hx, r64_to hy]
      have e2 : (Int64.ofInt x = Int64.ofInt y) ↔ x = y := by rw [← Int64.toInt_inj, r64_to hx, r64_to hy]
      simp only [e1, e2]
      split
      · rfl
      · split <;> rfl
    rw [e]; exact k)) k
theorem wp_iconst {n : Int} (hd : decode K.2.1 pc = .ok (.iconst n, 1)) (k : Wp X K (pc + 1) L (vI n :: S) h b Q) : Wp X K pc L S h b Q :=
  wp_st (fun n h => okS_c (by exact trivial) h) (fun hx hb _ _ k => lv_iconst hx hb hd rfl k) k
theorem wp_bipush {n : Int} (hd : decode K.2.1 pc = .ok (.bipush n, 2)) (hv : (Int8.ofInt n).toInt32 = Int32.ofInt n) (k : Wp X K (pc + 2) L (vI n :: S) h b Q) : Wp X K pc L S h b Q :=
  wp_st (fun n h => okS_c (by exact trivial) h) (fun hx hb _ _ k => lv_bipush hx hb hd hv k) k
theorem wp_sipush {n : Int} (hd : decode K.2.1 pc = .ok (.sipush n, 3)) (hv : (Int16.ofInt n).toInt32 = Int32.ofInt n) (k : Wp X K (pc + 3) L (vI n :: S) h b Q) : Wp X K pc L S h b Q :=
  wp_st (fun n h => okS_c (by exact trivial) h) (fun hx hb _ _ k => lv_sipush hx hb hd hv k) k
theorem wp_lconst {n : Fin 2} {z : Int} (hd : decode K.2.1 pc = .ok (.lconst n, 1)) (hz : Int64.ofInt z = Int64.ofNat n) (k : Wp X K (pc + 1) L (vL z :: S) h b Q) : Wp X K pc L S h b Q :=
  wp_st (fun n h => okS_c (by exact trivial) h) (fun hx hb _ _ k => lv_lconst hx hb hd (by first | exact hz.symm | exact hz) k) k
theorem wp_ldc {i : Nat} {z : Int} (hd : decode K.2.1 pc = .ok (.ldc i, 2)) (hw : Jvm.Cond.constant K.1.cls i (Int32.ofInt z) ∈ gdT) (k : Wp X K (pc + 2) L (vI z :: S) h b Q) : Wp X K pc L S h b Q :=
  wp_st (fun n h => okS_c (by exact trivial) h) (fun hx hb ho ht k => lv_ldc hx hb ho (ht _ hw) hd k) k
theorem wp_ldcw {i : Nat} {z : Int} (hd : decode K.2.1 pc = .ok (.ldc_w i, 3)) (hw : Jvm.Cond.constant K.1.cls i (Int32.ofInt z) ∈ gdT) (k : Wp X K (pc + 3) L (vI z :: S) h b Q) : Wp X K pc L S h b Q :=
  wp_st (fun n h => okS_c (by exact trivial) h) (fun hx hb ho ht k => lv_ldcw hx hb ho (ht _ hw) hd k) k
theorem wp_ldc2 {i : Nat} {z : Int} (hd : decode K.2.1 pc = .ok (.ldc2_w i, 3)) (hw : Jvm.Cond.constantLong K.1.cls i (Int64.ofInt z) ∈ gdT) (k : Wp X K (pc + 3) L (vL z :: S) h b Q) : Wp X K pc L S h b Q :=
  wp_st (fun n h => okS_c (by exact trivial) h) (fun hx hb ho ht k => lv_ldc2 hx hb ho (ht _ hw) hd k) k
theorem wp_null (hd : decode K.2.1 pc = .ok (.aconst_null, 1)) (k : Wp X K (pc + 1) L (vN :: S) h b Q) : Wp X K pc L S h b Q :=
  wp_st (fun n h => okS_c (by exact trivial) h) (fun hx hb _ _ k => lv_null hx hb hd k) k
theorem cvV_cat1 {E ad : Nat → Nat} {v : AV} (h : ∀ z, v ≠ vL z) : (cvV E ad v).category = 1 := by
  rcases v with z | z | o | k
  · rfl
  · exact absurd rfl (h z)
  · cases o <;> rfl
  · rfl
def cat1 : AV → Bool
  | Sum.inr (Sum.inl _) => false
  | _ => true
theorem cat1_ok {E ad : Nat → Nat} {v : AV} (h : cat1 v = true) : (cvV E ad v).category = 1 := cvV_cat1 (fun z e => by rw [e] at h; cases h)
theorem wp_dup {v : AV} (hd : decode K.2.1 pc = .ok (.dup, 1)) (hv : cat1 v = true) (k : Wp X K (pc + 1) L (v :: v :: S) h b Q) : Wp X K pc L (v :: S) h b Q :=
  wp_st (fun n h => okS_c (okS_h h) h) (fun hx hb _ _ k => lv_dup hx hb hd (cat1_ok hv) k) k
theorem wp_dup2 {v u : AV} (hd : decode K.2.1 pc = .ok (.dup2, 1)) (hv : cat1 v = true) (hu : cat1 u = true) (k : Wp X K (pc + 1) L (v :: u :: v :: u :: S) h b Q) : Wp X K pc L (v :: u :: S) h b Q :=
  wp_st (fun n h => okS_c (okS_h h) (okS_c (okS_h (okS_t h)) h)) (fun hx hb _ _ k => lv_dup2_11 hx hb hd (cat1_ok hv) (cat1_ok hu) k) k
theorem wp_dup2L {z : Int} (hd : decode K.2.1 pc = .ok (.dup2, 1)) (k : Wp X K (pc + 1) L (vL z :: vL z :: S) h b Q) : Wp X K pc L (vL z :: S) h b Q :=
  wp_st (fun n h => okS_c (okS_h h) h) (fun hx hb _ _ k => lv_dup2_2 hx hb hd rfl k) k
theorem wp_pop {v : AV} (hd : decode K.2.1 pc = .ok (.pop, 1)) (hv : cat1 v = true) (k : Wp X K (pc + 1) L S h b Q) : Wp X K pc L (v :: S) h b Q :=
  wp_st (fun n h => okS_t h) (fun hx hb _ _ k => lv_pop hx hb hd (cat1_ok hv) k) k
theorem wp_goto {off : Int} (tgt : Nat) (hd : decode K.2.1 pc = .ok (.goto off, 3)) (ht : (pc : Int) + off = (tgt : Int)) (k : Wp X K tgt L S h b Q) : Wp X K pc L S h b Q :=
  wp_st (fun n h => h) (fun hx hb _ _ k => lv_goto hx hb hd ht k) k
theorem wp_iload {i : Nat} {x : Int} (hd : decode K.2.1 pc = .ok (.iload i, 2)) (hi : L[i]? = some (some (vI x))) (k : Wp X K (pc + 2) L (vI x :: S) h b Q) : Wp X K pc L S h b Q :=
  wp_ld hi (fun hx hb hl k => lv_iload hx hb hd hl k) k
theorem wp_iload_n {i : Fin 4} {x : Int} (hd : decode K.2.1 pc = .ok (.iload_n i, 1)) (hi : L[(i : Nat)]? = some (some (vI x))) (k : Wp X K (pc + 1) L (vI x :: S) h b Q) : Wp X K pc L S h b Q :=
  wp_ld hi (fun hx hb hl k => lv_iload_n hx hb hd rfl hl k) k
theorem wp_lload {i : Nat} {x : Int} (hd : decode K.2.1 pc = .ok (.lload i, 2)) (hi : L[i]? = some (some (vL x))) (k : Wp X K (pc + 2) L (vL x :: S) h b Q) : Wp X K pc L S h b Q :=
  wp_ld hi (fun hx hb hl k => lv_lload hx hb hd hl k) k
theorem wp_lload_n {i : Fin 4} {x : Int} (hd : decode K.2.1 pc = .ok (.lload_n i, 1)) (hi : L[(i : Nat)]? = some (some (vL x))) (k : Wp X K (pc + 1) L (vL x :: S) h b Q) : Wp X K pc L S h b Q :=
  wp_ld hi (fun hx hb hl k => lv_lload_n hx hb hd rfl hl k) k
theorem wp_aload_n {i : Fin 4} {v : Option Nat ⊕ Nat} (hd : decode K.2.1 pc = .ok (.aload_n i, 1)) (hi : L[(i : Nat)]? = some (some (Sum.inr (Sum.inr v)))) (k : Wp X K (pc + 1) L (Sum.inr (Sum.inr v) :: S) h b Q) : Wp X K pc L S h b Q :=
  wp_ld hi (fun hx hb hl k => by
    rcases v with o | j
    · cases o with
      | none => exact lv_aload_nN hx hb hd rfl hl k
      | some a => exact lv_aload_n hx hb hd rfl hl k
    · exact lv_aload_n hx hb hd rfl hl k) k
theorem wp_aload {i : Nat} {v : Option Nat ⊕ Nat} (hd : decode K.2.1 pc = .ok (.aload i, 2)) (hi : L[i]? = some (some (Sum.inr (Sum.inr v)))) (k : Wp X K (pc + 2) L (Sum.inr (Sum.inr v) :: S) h b Q) : Wp X K pc L S h b Q :=
  wp_ld hi (fun hx hb hl k => by
    rcases v with o | j
    · cases o with
      | none => exact lv_aloadN hx hb hd hl k
      | some a => exact lv_aload hx hb hd hl k
    · exact lv_aload hx hb hd hl k) k
theorem wp_icmp_lt {x y off : Int} (tgt : Nat) (hd : decode K.2.1 pc = .ok (.if_icmp .lt off, 3)) (ht : (pc : Int) + off = (tgt : Int)) (hx : r32 x) (hy : r32 y) (kt : x < y → Wp X K tgt L S h b Q) (kf : ¬ (x < y) → Wp X K (pc + 3) L S h b Q) : Wp X K pc L (vI y :: vI x :: S) h b Q :=
  fun p l e R s m args below meth c D E A ad0 n0 Z C hz ad ca H locs cells slots ls hH hS hE hL hO hl hc hs =>
    lv_icmp_lt C.1 C.2.1 hd ht (fun q => kt ((r32_lt hx hy).mp q) p l e R s m args below meth c D E A ad0 n0 Z C hz ad ca H locs cells slots ls hH hS hE hL (okS_t (okS_t hO)) hl hc hs)
      (fun q => kf (fun z => q ((r32_lt hx hy).mpr z)) p l e R s m args below meth c D E A ad0 n0 Z C hz ad ca H locs cells slots ls hH hS hE hL (okS_t (okS_t hO)) hl hc hs)
theorem wp_if_lt {x off : Int} (tgt : Nat) (hd : decode K.2.1 pc = .ok (.ifCond .lt off, 3)) (ht : (pc : Int) + off = (tgt : Int)) (hx : r32 x) (kt : x < 0 → Wp X K tgt L S h b Q) (kf : ¬ (x < 0) → Wp X K (pc + 3) L S h b Q) : Wp X K pc L (vI x :: S) h b Q :=
  fun p l e R s m args below meth c D E A ad0 n0 Z C hz ad ca H locs cells slots ls hH hS hE hL hO hl hc hs =>
    lv_if_lt C.1 C.2.1 hd ht (fun q => kt ((r32_lt hx r32_0).mp q) p l e R s m args below meth c D E A ad0 n0 Z C hz ad ca H locs cells slots ls hH hS hE hL (okS_t hO) hl hc hs)
      (fun q => kf (fun z => q ((r32_lt hx r32_0).mpr z)) p l e R s m args below meth c D E A ad0 n0 Z C hz ad ca H locs cells slots ls hH hS hE hL (okS_t hO) hl hc hs)
theorem wp_icmp_ge {x y off : Int} (tgt : Nat) (hd : decode K.2.1 pc = .ok (.if_icmp .ge off, 3)) (ht : (pc : Int) + off = (tgt : Int)) (hx : r32 x) (hy : r32 y) (kt : y ≤ x → Wp X K tgt L S h b Q) (kf : ¬ (y ≤ x) → Wp X K (pc + 3) L S h b Q) : Wp X K pc L (vI y :: vI x :: S) h b Q :=
  fun p l e R s m args below meth c D E A ad0 n0 Z C hz ad ca H locs cells slots ls hH hS hE hL hO hl hc hs =>
    lv_icmp_ge C.1 C.2.1 hd ht (fun q => kt ((r32_le hy hx).mp q) p l e R s m args below meth c D E A ad0 n0 Z C hz ad ca H locs cells slots ls hH hS hE hL (okS_t (okS_t hO)) hl hc hs)
      (fun q => kf (fun z => q ((r32_le hy hx).mpr z)) p l e R s m args below meth c D E A ad0 n0 Z C hz ad ca H locs cells slots ls hH hS hE hL (okS_t (okS_t hO)) hl hc hs)
theorem wp_if_ge {x off : Int} (tgt : Nat) (hd : decode K.2.1 pc = .ok (.ifCond .ge off, 3)) (ht : (pc : Int) + off = (tgt : Int)) (hx : r32 x) (kt : 0 ≤ x → Wp X K tgt L S h b Q) (kf : ¬ (0 ≤ x) → Wp X K (pc + 3) L S h b Q) : Wp X K pc L (vI x :: S) h b Q :=
  fun p l e R s m args below meth c D E A ad0 n0 Z C hz ad ca H locs cells slots ls hH hS hE hL hO hl hc hs =>
    lv_if_ge C.1 C.2.1 hd ht (fun q => kt ((r32_le r32_0 hx).mp q) p l e R s m args below meth c D E A ad0 n0 Z C hz ad ca H locs cells slots ls hH hS hE hL (okS_t hO) hl hc hs)
      (fun q => kf (fun z => q ((r32_le r32_0 hx).mpr z)) p l e R s m args below meth c D E A ad0 n0 Z C hz ad ca H locs cells slots ls hH hS hE hL (okS_t hO) hl hc hs)
theorem wp_icmp_gt {x y off : Int} (tgt : Nat) (hd : decode K.2.1 pc = .ok (.if_icmp .gt off, 3)) (ht : (pc : Int) + off = (tgt : Int)) (hx : r32 x) (hy : r32 y) (kt : y < x → Wp X K tgt L S h b Q) (kf : ¬ (y < x) → Wp X K (pc + 3) L S h b Q) : Wp X K pc L (vI y :: vI x :: S) h b Q :=
  fun p l e R s m args below meth c D E A ad0 n0 Z C hz ad ca H locs cells slots ls hH hS hE hL hO hl hc hs =>
    lv_icmp_gt C.1 C.2.1 hd ht (fun q => kt ((r32_lt hy hx).mp q) p l e R s m args below meth c D E A ad0 n0 Z C hz ad ca H locs cells slots ls hH hS hE hL (okS_t (okS_t hO)) hl hc hs)
      (fun q => kf (fun z => q ((r32_lt hy hx).mpr z)) p l e R s m args below meth c D E A ad0 n0 Z C hz ad ca H locs cells slots ls hH hS hE hL (okS_t (okS_t hO)) hl hc hs)
theorem wp_if_gt {x off : Int} (tgt : Nat) (hd : decode K.2.1 pc = .ok (.ifCond .gt off, 3)) (ht : (pc : Int) + off = (tgt : Int)) (hx : r32 x) (kt : 0 < x → Wp X K tgt L S h b Q) (kf : ¬ (0 < x) → Wp X K (pc + 3) L S h b Q) : Wp X K pc L (vI x :: S) h b Q :=
  fun p l e R s m args below meth c D E A ad0 n0 Z C hz ad ca H locs cells slots ls hH hS hE hL hO hl hc hs =>
    lv_if_gt C.1 C.2.1 hd ht (fun q => kt ((r32_lt r32_0 hx).mp q) p l e R s m args below meth c D E A ad0 n0 Z C hz ad ca H locs cells slots ls hH hS hE hL (okS_t hO) hl hc hs)
      (fun q => kf (fun z => q ((r32_lt r32_0 hx).mpr z)) p l e R s m args below meth c D E A ad0 n0 Z C hz ad ca H locs cells slots ls hH hS hE hL (okS_t hO) hl hc hs)
theorem wp_icmp_le {x y off : Int} (tgt : Nat) (hd : decode K.2.1 pc = .ok (.if_icmp .le off, 3)) (ht : (pc : Int) + off = (tgt : Int)) (hx : r32 x) (hy : r32 y) (kt : x ≤ y → Wp X K tgt L S h b Q) (kf : ¬ (x ≤ y) → Wp X K (pc + 3) L S h b Q) : Wp X K pc L (vI y :: vI x :: S) h b Q :=
  fun p l e R s m args below meth c D E A ad0 n0 Z C hz ad ca H locs cells slots ls hH hS hE hL hO hl hc hs =>
    lv_icmp_le C.1 C.2.1 hd ht (fun q => kt ((r32_le hx hy).mp q) p l e R s m args below meth c D E A ad0 n0 Z C hz ad ca H locs cells slots ls hH hS hE hL (okS_t (okS_t hO)) hl hc hs)
      (fun q => kf (fun z => q ((r32_le hx hy).mpr z)) p l e R s m args below meth c D E A ad0 n0 Z C hz ad ca H locs cells slots ls hH hS hE hL (okS_t (okS_t hO)) hl hc hs)
theorem wp_if_le {x off : Int} (tgt : Nat) (hd : decode K.2.1 pc = .ok (.ifCond .le off, 3)) (ht : (pc : Int) + off = (tgt : Int)) (hx : r32 x) (kt : x ≤ 0 → Wp X K tgt L S h b Q) (kf : ¬ (x ≤ 0) → Wp X K (pc + 3) L S h b Q) : Wp X K pc L (vI x :: S) h b Q :=
  fun p l e R s m args below meth c D E A ad0 n0 Z C hz ad ca H locs cells slots ls hH hS hE hL hO hl hc hs =>
    lv_if_le C.1 C.2.1 hd ht (fun q => kt ((r32_le hx r32_0).mp q) p l e R s m args below meth c D E A ad0 n0 Z C hz ad ca H locs cells slots ls hH hS hE hL (okS_t hO) hl hc hs)
      (fun q => kf (fun z => q ((r32_le hx r32_0).mpr z)) p l e R s m args below meth c D E A ad0 n0 Z C hz ad ca H locs cells slots ls hH hS hE hL (okS_t hO) hl hc hs)
theorem wp_icmp_eq {x y off : Int} (tgt : Nat) (hd : decode K.2.1 pc = .ok (.if_icmp .eq off, 3)) (ht : (pc : Int) + off = (tgt : Int)) (hx : r32 x) (hy : r32 y) (kt : x = y → Wp X K tgt L S h b Q) (kf : ¬ (x = y) → Wp X K (pc + 3) L S h b Q) : Wp X K pc L (vI y :: vI x :: S) h b Q :=
  fun p l e R s m args below meth c D E A ad0 n0 Z C hz ad ca H locs cells slots ls hH hS hE hL hO hl hc hs =>
    lv_icmp_eq C.1 C.2.1 hd ht (fun q => kt ((r32_eq hx hy).mp q) p l e R s m args below meth c D E A ad0 n0 Z C hz ad ca H locs cells slots ls hH hS hE hL (okS_t (okS_t hO)) hl hc hs)
      (fun q => kf (fun z => q ((r32_eq hx hy).mpr z)) p l e R s m args below meth c D E A ad0 n0 Z C hz ad ca H locs cells slots ls hH hS hE hL (okS_t (okS_t hO)) hl hc hs)
theorem wp_if_eq {x off : Int} (tgt : Nat) (hd : decode K.2.1 pc = .ok (.ifCond .eq off, 3)) (ht : (pc : Int) + off = (tgt : Int)) (hx : r32 x) (kt : x = 0 → Wp X K tgt L S h b Q) (kf : ¬ (x = 0) → Wp X K (pc + 3) L S h b Q) : Wp X K pc L (vI x :: S) h b Q :=
  fun p l e R s m args below meth c D E A ad0 n0 Z C hz ad ca H locs cells slots ls hH hS hE hL hO hl hc hs =>
    lv_if_eq C.1 C.2.1 hd ht (fun q => kt ((r32_eq hx r32_0).mp q) p l e R s m args below meth c D E A ad0 n0 Z C hz ad ca H locs cells slots ls hH hS hE hL (okS_t hO) hl hc hs)
      (fun q => kf (fun z => q ((r32_eq hx r32_0).mpr z)) p l e R s m args below meth c D E A ad0 n0 Z C hz ad ca H locs cells slots ls hH hS hE hL (okS_t hO) hl hc hs)
theorem wp_icmp_ne {x y off : Int} (tgt : Nat) (hd : decode K.2.1 pc = .ok (.if_icmp .ne off, 3)) (ht : (pc : Int) + off = (tgt : Int)) (hx : r32 x) (hy : r32 y) (kt : x ≠ y → Wp X K tgt L S h b Q) (kf : x = y → Wp X K (pc + 3) L S h b Q) : Wp X K pc L (vI y :: vI x :: S) h b Q :=
  fun p l e R s m args below meth c D E A ad0 n0 Z C hz ad ca H locs cells slots ls hH hS hE hL hO hl hc hs =>
    lv_icmp_ne C.1 C.2.1 hd ht (fun q => kt ((not_congr (r32_eq hx hy)).mp q) p l e R s m args below meth c D E A ad0 n0 Z C hz ad ca H locs cells slots ls hH hS hE hL (okS_t (okS_t hO)) hl hc hs)
      (fun q => kf ((r32_eq hx hy).mp q) p l e R s m args below meth c D E A ad0 n0 Z C hz ad ca H locs cells slots ls hH hS hE hL (okS_t (okS_t hO)) hl hc hs)
theorem wp_if_ne {x off : Int} (tgt : Nat) (hd : decode K.2.1 pc = .ok (.ifCond .ne off, 3)) (ht : (pc : Int) + off = (tgt : Int)) (hx : r32 x) (kt : x ≠ 0 → Wp X K tgt L S h b Q) (kf : x = 0 → Wp X K (pc + 3) L S h b Q) : Wp X K pc L (vI x :: S) h b Q :=
  fun p l e R s m args below meth c D E A ad0 n0 Z C hz ad ca H locs cells slots ls hH hS hE hL hO hl hc hs =>
    lv_if_ne C.1 C.2.1 hd ht (fun q => kt ((not_congr (r32_eq hx r32_0)).mp q) p l e R s m args below meth c D E A ad0 n0 Z C hz ad ca H locs cells slots ls hH hS hE hL (okS_t hO) hl hc hs)
      (fun q => kf ((r32_eq hx r32_0).mp q) p l e R s m args below meth c D E A ad0 n0 Z C hz ad ca H locs cells slots ls hH hS hE hL (okS_t hO) hl hc hs)
theorem wp_nonnull {i : Nat} {off : Int} (tgt : Nat) (hd : decode K.2.1 pc = .ok (.ifnonnull off, 3)) (ht : (pc : Int) + off = (tgt : Int)) (k : Wp X K tgt L S h b Q) : Wp X K pc L (vR i :: S) h b Q :=
  wp_st (fun n h => okS_t h) (fun hx hb _ _ k => lv_ifnonnull hx hb hd ht k) k
theorem wp_nonnullN {off : Int} (hd : decode K.2.1 pc = .ok (.ifnonnull off, 3)) (k : Wp X K (pc + 3) L S h b Q) : Wp X K pc L (vN :: S) h b Q :=
  wp_st (fun n h => okS_t h) (fun hx hb _ _ k => lv_ifnonnullN hx hb hd k) k
theorem wp_tableOut {dflt lo hi : Int} {offs : Array Int} {len : Nat} {x : Int} (tgt : Nat) (hd : decode K.2.1 pc = .ok (.tableswitch dflt lo hi offs, len)) (hx : r32 x) (hc : x < lo ∨ hi < x) (ht : (pc : Int) + dflt = (tgt : Int)) (k : Wp X K tgt L S h b Q) : Wp X K pc L (vI x :: S) h b Q :=
  wp_st (fun n h => okS_t h) (fun hx2 hb _ _ k => lv_tableOut hx2 hb hd (by rw [r32_to hx]; exact hc) ht k) k
theorem wp_tableIn {dflt lo hi : Int} {offs : Array Int} {len : Nat} {x off : Int} (tgt : Nat) (hd : decode K.2.1 pc = .ok (.tableswitch dflt lo hi offs, len)) (hx : r32 x) (h1 : lo ≤ x) (h2 : x ≤ hi) (ho : offs[(x - lo).toNat]? = some off) (ht : (pc : Int) + off = (tgt : Int)) (k : Wp X K tgt L S h b Q) : Wp X K pc L (vI x :: S) h b Q :=
  wp_st (fun n h => okS_t h) (fun hx2 hb _ _ k => lv_tableIn hx2 hb hd (by rw [r32_to hx]; omega) (by rw [r32_to hx]; omega) (by rw [r32_to hx]; exact ho) ht k) k
theorem lcmp_r (x y : Int) : r32 (if y < x then 1 else if x = y then 0 else -1) := by
  split
  · exact ⟨by omega, by omega⟩
  · split <;> exact ⟨by omega, by omega⟩
end RULES
section LC
variable {X : XS} {K : Kd} {pc : Nat} {L : List (Option AV)} {S : List AV} {h : AH} {b : Nat × Nat} {Q : Option AV → AH → Prop}
theorem wp_lc_lt {x y off : Int} (tgt : Nat) (hd : decode K.2.1 pc = .ok (.lcmp, 1)) (hd2 : decode K.2.1 (pc + 1) = .ok (.ifCond .lt off, 3)) (ht : ((pc + 1 : Nat) : Int) + off = (tgt : Int)) (hx : r64 x) (hy : r64 y) (kt : x < y → Wp X K tgt L S h b Q) (kf : ¬ (x < y) → Wp X K (pc + 4) L S h b Q) : Wp X K pc L (vL y :: vL x :: S) h b Q :=
  wp_lcmp hd hx hy (wp_if_lt tgt hd2 ht (lcmp_r x y) (fun q => kt (by revert q; split <;> (try split) <;> intro q <;> omega)) (fun q => kf (by revert q; split <;> (try split) <;> intro q <;> omega)))
theorem wp_lc_ge {x y off : Int} (tgt : Nat) (hd : decode K.2.1 pc = .ok (.lcmp, 1)) (hd2 : decode K.2.1 (pc + 1) = .ok (.ifCond .ge off, 3)) (ht : ((pc + 1 : Nat) : Int) + off = (tgt : Int)) (hx : r64 x) (hy : r64 y) (kt : y ≤ x → Wp X K tgt L S h b Q) (kf : ¬ (y ≤ x) → Wp X K (pc + 4) L S h b Q) : Wp X K pc L (vL y :: vL x :: S) h b Q :=
  wp_lcmp hd hx hy (wp_if_ge tgt hd2 ht (lcmp_r x y) (fun q => kt (by revert q; split <;> (try split) <;> intro q <;> omega)) (fun q => kf (by revert q; split <;> (try split) <;> intro q <;> omega)))
theorem wp_lc_gt {x y off : Int} (tgt : Nat) (hd : decode K.2.1 pc = .ok (.lcmp, 1)) (hd2 : decode K.2.1 (pc + 1) = .ok (.ifCond .gt off, 3)) (ht : ((pc + 1 : Nat) : Int) + off = (tgt : Int)) (hx : r64 x) (hy : r64 y) (kt : y < x → Wp X K tgt L S h b Q) (kf : ¬ (y < x) → Wp X K (pc + 4) L S h b Q) : Wp X K pc L (vL y :: vL x :: S) h b Q :=
  wp_lcmp hd hx hy (wp_if_gt tgt hd2 ht (lcmp_r x y) (fun q => kt (by revert q; split <;> (try split) <;> intro q <;> omega)) (fun q => kf (by revert q; split <;> (try split) <;> intro q <;> omega)))
theorem wp_lc_le {x y off : Int} (tgt : Nat) (hd : decode K.2.1 pc = .ok (.lcmp, 1)) (hd2 : decode K.2.1 (pc + 1) = .ok (.ifCond .le off, 3)) (ht : ((pc + 1 : Nat) : Int) + off = (tgt : Int)) (hx : r64 x) (hy : r64 y) (kt : x ≤ y → Wp X K tgt L S h b Q) (kf : ¬ (x ≤ y) → Wp X K (pc + 4) L S h b Q) : Wp X K pc L (vL y :: vL x :: S) h b Q :=
  wp_lcmp hd hx hy (wp_if_le tgt hd2 ht (lcmp_r x y) (fun q => kt (by revert q; split <;> (try split) <;> intro q <;> omega)) (fun q => kf (by revert q; split <;> (try split) <;> intro q <;> omega)))
theorem wp_lc_eq {x y off : Int} (tgt : Nat) (hd : decode K.2.1 pc = .ok (.lcmp, 1)) (hd2 : decode K.2.1 (pc + 1) = .ok (.ifCond .eq off, 3)) (ht : ((pc + 1 : Nat) : Int) + off = (tgt : Int)) (hx : r64 x) (hy : r64 y) (kt : x = y → Wp X K tgt L S h b Q) (kf : ¬ (x = y) → Wp X K (pc + 4) L S h b Q) : Wp X K pc L (vL y :: vL x :: S) h b Q :=
  wp_lcmp hd hx hy (wp_if_eq tgt hd2 ht (lcmp_r x y) (fun q => kt (by revert q; split <;> (try split) <;> intro q <;> omega)) (fun q => kf (by revert q; split <;> (try split) <;> intro q <;> omega)))
theorem wp_lc_ne {x y off : Int} (tgt : Nat) (hd : decode K.2.1 pc = .ok (.lcmp, 1)) (hd2 : decode K.2.1 (pc + 1) = .ok (.ifCond .ne off, 3)) (ht : ((pc + 1 : Nat) : Int) + off = (tgt : Int)) (hx : r64 x) (hy : r64 y) (kt : x ≠ y → Wp X K tgt L S h b Q) (kf : x = y → Wp X K (pc + 4) L S h b Q) : Wp X K pc L (vL y :: vL x :: S) h b Q :=
  wp_lcmp hd hx hy (wp_if_ne tgt hd2 ht (lcmp_r x y) (fun q => kt (by revert q; split <;> (try split) <;> intro q <;> omega)) (fun q => kf (by revert q; split <;> (try split) <;> intro q <;> omega)))
end LC
