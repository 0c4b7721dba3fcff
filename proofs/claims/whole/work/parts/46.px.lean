/-! more rows: statics' arrays, locals that are forgotten, bits -/
section PX
variable {X : XS} {K : Kd} {pc : Nat} {L : List (Option AV)} {S : List AV} {h : AH} {b : Nat × Nat} {Q : Option AV → AH → Prop}
theorem ud_at {f : Int → Int} {j x k : Int} (h : k = j) : ud f j x k = x := if_pos h
theorem wp_drop {L' : List (Option AV)} (i : Nat) (hL' : L.set i none = L') (k : Wp X K pc L' S h b Q) : Wp X K pc L S h b Q := by
  subst hL'
  have hw : ∀ (j : Nat) (v : AV), (L.set i none)[j]? = some (some v) → L[j]? = some (some v) := fun j v hj => by
    rw [List.getElem?_set] at hj
    by_cases e : i = j
    · rw [if_pos e] at hj
      split at hj <;> cases hj
    · rw [if_neg e] at hj
      exact hj
  exact fun p l e R s m args below meth c D E A ad0 n0 Z C hz ad ca H locs cells slots ls hH hS hE hL hO hl hc hs =>
    k p l e R s m args below meth c D E A ad0 n0 Z C hz ad ca H locs cells slots ls hH hS hE (fun j v hj => hL j v (hw j v hj)) hO ⟨hl.1, fun j v hj => hl.2 j v (hw j v hj)⟩ hc hs
/-- what a static array holds -/
def xv (j : Nat) (i : Int) : Int := (xsC j).getD i.toNat 0
def GW (own : String) (idx j : Nat) : Prop := Cond.fieldLink own idx (xsN j).1 (xsN j).2 "[I" ∈ gdT ∨ ∃ host, Cond.fieldLinkNest own idx (xsN j).1 (xsN j).2 "[I" host ∈ nwT
theorem wp_gets (j : Nat) {idx : Nat} (hd : decode K.2.1 pc = .ok (.getstatic idx, 3)) (hw : GW K.1.cls idx j) (hj : j < 6) (k : Wp X K (pc + 3) L (vX j :: S) h b Q) : Wp X K pc L S h b Q :=
  fun p l e R s m args below meth c D E A ad0 n0 Z C hz ad ca H locs cells slots ls hH hS hE hL hO hls hc hs => by
    have kw := k p l e R s m args below meth c D E A ad0 n0 Z C hz ad ca H locs cells slots ls hH hS hE hL (okS_c (by exact trivial) hO) hls hc hs
    rcases hw with hw | ⟨host, hw⟩
    · exact va_gets C.1 C.2.1 (C.2.2.2.2.2.2.2.1.1 j hj).1 hS C.2.2.2.1 (C.2.2.2.2.1 _ hw) (fun _ q => q) hd kw
    · exact va_getsN C.1 C.2.1 (C.2.2.2.2.2.2.2.1.1 j hj).1 hS C.2.2.2.1 (va_Nw.use rfl (C.2.2.2.2.2.2.2.1.2.2.2.2.2.2.1 _ hw)) (fun _ q => q) hd kw
theorem wp_xld (j : Nat) {i : Int} (hd : decode K.2.1 pc = .ok (.iaload, 1)) (hj : j < 6) (hi : 0 ≤ i ∧ i < (xsC j).length) (k : Wp X K (pc + 1) L (vI (xv j i) :: S) h b Q) : Wp X K pc L (vI i :: vX j :: S) h b Q :=
  fun p l e R s m args below meth c D E A ad0 n0 Z C hz ad ca H locs cells slots ls hH hS hE hL hO hls hc hs => by
    have hlen : (xsC j).length ≤ 7 := by
      match j, hj with
      | 0, _ => decide
      | 1, _ => decide
      | 2, _ => decide
      | 3, _ => decide
      | 4, _ => decide
      | 5, _ => decide
    obtain ⟨g1, g2⟩ := r32_in hi.1 hi.2 (by omega)
    have ee : (Int32.ofInt i).toNatClampNeg = i.toNat := by omega
    refine va_ti (v := .int (Int32.ofInt (xv j i))) C.1 C.2.1 (C.2.2.2.2.2.2.2.1.1 j hj).2 hS g1 (by rw [ee]; rfl) hd ?_
    exact k p l e R s m args below meth c D E A ad0 n0 Z C hz ad ca H locs cells slots ls hH hS hE hL (okS_c (by exact trivial) (okS_t (okS_t hO))) hls hc hs
theorem wp_lshl {x y z : Int} (hd : decode K.2.1 pc = .ok (.lshl, 1)) (hv : Int64.ofInt x <<< ((Int32.ofInt y).toInt64 &&& 63) = Int64.ofInt z) (k : Wp X K (pc + 1) L (vL z :: S) h b Q) : Wp X K pc L (vI y :: vL x :: S) h b Q :=
  wp_st (fun n h => okS_c (by exact trivial) (okS_t (okS_t h))) (fun hx hb _ _ k => lv_lshl hx hb hd hv k) k
theorem wp_lushr {x y z : Int} (hd : decode K.2.1 pc = .ok (.lushr, 1)) (hv : ((Int64.ofInt x).toUInt64 >>> ((Int32.ofInt y).toInt64.toUInt64 &&& Int64.toUInt64 63)).toInt64 = Int64.ofInt z) (k : Wp X K (pc + 1) L (vL z :: S) h b Q) : Wp X K pc L (vI y :: vL x :: S) h b Q :=
  wp_st (fun n h => okS_c (by exact trivial) (okS_t (okS_t h))) (fun hx hb _ _ k => lv_lushr hx hb hd hv k) k
theorem wp_i2c {x z : Int} (hd : decode K.2.1 pc = .ok (.i2c, 1)) (hv : ((Int32.ofInt x).toUInt32 % 65536).toInt32 = Int32.ofInt z) (k : Wp X K (pc + 1) L (vI z :: S) h b Q) : Wp X K pc L (vI x :: S) h b Q :=
  wp_st (fun n h => okS_c (by exact trivial) (okS_t h)) (fun hx hb _ _ k => lv_i2c hx hb hd hv k) k
/-- powers of two, for bits 0 to 9 -/
def pw (k : Int) : Int := 2 ^ k.toNat
theorem in10 {k : Int} (h : 0 ≤ k ∧ k < 10) : k = 0 ∨ k = 1 ∨ k = 2 ∨ k = 3 ∨ k = 4 ∨ k = 5 ∨ k = 6 ∨ k = 7 ∨ k = 8 ∨ k = 9 := by omega
theorem pw_b {k : Int} (h : 0 ≤ k ∧ k < 10) : 1 ≤ pw k ∧ pw k ≤ 512 := by
  rcases in10 h with rfl | rfl | rfl | rfl | rfl | rfl | rfl | rfl | rfl | rfl <;> decide
theorem pw_s {k : Int} (h : 0 ≤ k) : pw (k + 1) = 2 * pw k := by
  unfold pw
  rw [show (k + 1).toNat = k.toNat + 1 by omega, Int.pow_succ]
  omega
theorem sh_1 {k : Int} (h : 0 ≤ k ∧ k < 10) : Int32.ofInt 1 <<< (Int32.ofInt k &&& 31) = Int32.ofInt (pw k) := by
  rcases in10 h with rfl | rfl | rfl | rfl | rfl | rfl | rfl | rfl | rfl | rfl <;> decide
theorem or_fin : ∀ k : Fin 10, ∀ n : Fin 512, n.val < 2 ^ k.val → Int32.ofInt (n.val : Int) ||| Int32.ofInt (pw (k.val : Int)) = Int32.ofInt ((n.val : Int) + pw (k.val : Int)) := by decide +kernel
theorem or_1 {n k : Int} (hk : 0 ≤ k ∧ k < 10) (hn : 0 ≤ n ∧ n < pw k) : Int32.ofInt n ||| Int32.ofInt (pw k) = Int32.ofInt (n + pw k) := by
  have hb := pw_b hk
  have h := or_fin ⟨k.toNat, by omega⟩ ⟨n.toNat, by omega⟩ (by
    show n.toNat < 2 ^ k.toNat
    have e : ((2 ^ k.toNat : Nat) : Int) = pw k := by unfold pw; rw [Int.natCast_pow]; rfl
    omega)
  have e1 : ((k.toNat : Nat) : Int) = k := by omega
  have e2 : ((n.toNat : Nat) : Int) = n := by omega
  simp only [e1, e2] at h
  exact h
end PX
theorem wsX5_39 : GW RX5 39 5 := Or.inl (tm3_0 (List.mem_of_getElem? (i := 1) rfl) rfl)
theorem wsX5_53 : GW RX5 53 3 := Or.inl (tm2_6 (List.mem_of_getElem? (i := 11) rfl) rfl)
theorem wsX5_68 : GW RX5 68 4 := Or.inl (tm2_11 (List.mem_of_getElem? (i := 13) rfl) rfl)
theorem wsX6_115 : GW RX6 115 1 := Or.inl (tm2_10 (List.mem_of_getElem? (i := 9) rfl) rfl)
theorem wsX6_118 : GW RX6 118 2 := Or.inl (tm2_10 (List.mem_of_getElem? (i := 11) rfl) rfl)
theorem wsX5_15 : GW RX5 15 0 := Or.inr ⟨RX6, tn1_2 (List.mem_of_getElem? (i := 0) rfl) rfl⟩
