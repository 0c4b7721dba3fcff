/-! the bits of a long -/
theorem i64_and (a b : Nat) : Int64.ofInt (a : Int) &&& Int64.ofInt (b : Int) = Int64.ofInt ((a &&& b : Nat) : Int) := by
  rw [← Int64.toBitVec_inj]
  simp [Int64.toBitVec_ofInt, BitVec.ofInt_natCast, BitVec.ofNat_and]
theorem i64_or (a b : Nat) : Int64.ofInt (a : Int) ||| Int64.ofInt (b : Int) = Int64.ofInt ((a ||| b : Nat) : Int) := by
  rw [← Int64.toBitVec_inj]
  simp [Int64.toBitVec_ofInt, BitVec.ofInt_natCast, BitVec.ofNat_or]
theorem i32_and (a b : Nat) : Int32.ofInt (a : Int) &&& Int32.ofInt (b : Int) = Int32.ofInt ((a &&& b : Nat) : Int) := by
  rw [← Int32.toBitVec_inj]
  simp [Int32.toBitVec_ofInt, BitVec.ofInt_natCast, BitVec.ofNat_and]
theorem i64_shr (a s : Nat) (ha : a < 2 ^ 64) (k : UInt64) (hs : s < 64) (hk : k.toNat = s) : ((Int64.ofInt (a : Int)).toUInt64 >>> k).toInt64 = Int64.ofInt ((a >>> s : Nat) : Int) := by
  rw [← Int64.toBitVec_inj]
  have h1 : a >>> s < 2 ^ 64 := Nat.lt_of_le_of_lt (Nat.shiftRight_le a s) ha
  have e : k.toNat % 64 = s := by omega
  generalize hz : a >>> s = z at h1 ⊢
  apply BitVec.eq_of_toNat_eq
  simp [Int64.toBitVec_ofInt, BitVec.ofInt_natCast]
  rw [e, Nat.mod_eq_of_lt ha, Nat.mod_eq_of_lt h1]
  exact hz
theorem lor1 : ∀ s : Fin 64, Int64.ofInt 1 <<< ((Int32.ofInt (s.val : Int)).toInt64 &&& 63) = Int64.ofInt ((2 ^ s.val : Nat) : Int) := by decide +kernel
theorem z_and (a b m n : Nat) (hb : b < 256) (hn : n < 256) : (256 * a + b) &&& (256 * m + n) = 256 * (a &&& m) + (b &&& n) := by
  apply Nat.eq_of_testBit_eq
  intro j
  have h : b &&& n < 2 ^ 8 := Nat.and_lt_two_pow b hn
  rw [Nat.testBit_and, show (256 : Nat) = 2 ^ 8 from rfl, Nat.testBit_two_pow_mul_add a hb, Nat.testBit_two_pow_mul_add m hn, Nat.testBit_two_pow_mul_add _ h]
  split <;> simp [Nat.testBit_and]
theorem z_shr (a b m n s : Nat) (hs : s ≤ 8) (hb : b < 256) (hn : n < 2 ^ (8 - s)) : ((256 * a + b) >>> s) &&& (256 * m + n) = 256 * ((a >>> s) &&& m) + ((b >>> s) &&& n) := by
  apply Nat.eq_of_testBit_eq
  intro j
  have hn8 : n < 2 ^ 8 := Nat.lt_of_lt_of_le hn (Nat.pow_le_pow_right (by decide) (by omega))
  have h : (b >>> s) &&& n < 2 ^ 8 := Nat.and_lt_two_pow _ hn8
  rw [Nat.testBit_and, Nat.testBit_shiftRight, show (256 : Nat) = 2 ^ 8 from rfl, Nat.testBit_two_pow_mul_add a hb, Nat.testBit_two_pow_mul_add m hn8, Nat.testBit_two_pow_mul_add _ h]
  rcases Nat.lt_or_ge j 8 with q | q
  · rw [if_pos q, if_pos q, Nat.testBit_and, Nat.testBit_shiftRight]
    split
    · rfl
    · have z : n.testBit j = false := Nat.testBit_lt_two_pow (Nat.lt_of_lt_of_le hn (Nat.pow_le_pow_right (by decide) (by omega)))
      simp [z]
  · rw [if_neg (by omega), if_neg (by omega), if_neg (by omega), Nat.testBit_and, Nat.testBit_shiftRight, show s + j - 8 = s + (j - 8) by omega]

-- masks, bytes
def zmk (b : Nat) : Nat → Nat
  | 0 => 0
  | k + 1 => 256 * zmk b k + b
def zq1 (k N : Nat) : Nat := N - ((N >>> 1) &&& zmk 85 k)
def zq2 (k N : Nat) : Nat := (N &&& zmk 51 k) + ((N >>> 2) &&& zmk 51 k)
def zq3 (k N : Nat) : Nat := (N + (N >>> 4)) &&& zmk 15 k
def zt1 (b : Nat) : Nat := b - ((b >>> 1) &&& 85)
def zt2 (b : Nat) : Nat := (b &&& 51) + ((b >>> 2) &&& 51)
def zpB (b : Nat) : Nat := (zt2 (zt1 b) + zt2 (zt1 b) / 16) % 16
def zPB : Nat → Nat → Nat
  | 0, _ => 0
  | k + 1, N => 256 * zPB k (N / 256) + zpB (N % 256)
def pcS (N : Nat) : Nat → Int
  | 0 => 0
  | t + 1 => pcS N t + (if N.testBit t then 1 else 0)
theorem zpb_fin : ∀ b : Fin 256, (b.val >>> 1) &&& 85 ≤ b.val ∧ zt1 b.val < 256 ∧ zt2 (zt1 b.val) % 16 ≤ 4 ∧ zt2 (zt1 b.val) / 16 ≤ 4 ∧ ((zpB b.val : Nat) : Int) = pcS b.val 8 ∧ zpB b.val ≤ 8 := by decide +kernel
theorem zq_ok : ∀ (k N : Nat), N < 256 ^ k → zq2 k (zq1 k N) % 16 ≤ 4 ∧ zq3 k (zq2 k (zq1 k N)) = zPB k N ∧ zq1 k N ≤ N := by
  intro k
  induction k with
  | zero =>
    intro N h
    have e : N = 0 := by simpa using h
    subst e
    decide
  | succ k ih =>
    intro N h
    have eN : N = 256 * (N / 256) + N % 256 := by omega
    have hb : N % 256 < 256 := Nat.mod_lt _ (by decide)
    have ha : N / 256 < 256 ^ k := by rw [Nat.pow_succ] at h; omega
    have w := ih (N / 256) ha
    have f := zpb_fin ⟨N % 256, hb⟩
    dsimp only at f
    have e1 : zq1 (k + 1) N = 256 * zq1 k (N / 256) + zt1 (N % 256) := by
      have em : zmk 85 (k + 1) = 256 * zmk 85 k + 85 := rfl
      unfold zq1 zt1
      rw [em]
      have s := z_shr (N / 256) (N % 256) (zmk 85 k) 85 1 (by decide) hb (by decide)
      rw [← eN] at s
      rw [s]
      have l1 : ((N / 256) >>> 1) &&& zmk 85 k ≤ N / 256 := Nat.le_trans Nat.and_le_left (Nat.shiftRight_le _ _)
      omega
    have e2 : zq2 (k + 1) (zq1 (k + 1) N) = 256 * zq2 k (zq1 k (N / 256)) + zt2 (zt1 (N % 256)) := by
      have em : zmk 51 (k + 1) = 256 * zmk 51 k + 51 := rfl
      rw [e1]
      unfold zq2 zt2
      rw [em]
      rw [z_and _ _ _ _ f.2.1 (by decide), z_shr _ _ _ _ 2 (by decide) f.2.1 (by decide)]
      omega
    refine ⟨?_, ?_, ?_⟩
    · rw [e2]; omega
    · rw [e2]
      have em : zmk 15 (k + 1) = 256 * zmk 15 k + 15 := rfl
      have ep : zPB (k + 1) N = 256 * zPB k (N / 256) + zpB (N % 256) := rfl
      have eq3 : zq3 (k + 1) (256 * zq2 k (zq1 k (N / 256)) + zt2 (zt1 (N % 256))) = (256 * zq2 k (zq1 k (N / 256)) + zt2 (zt1 (N % 256)) + (256 * zq2 k (zq1 k (N / 256)) + zt2 (zt1 (N % 256))) >>> 4) &&& zmk 15 (k + 1) := rfl
      rw [eq3, em, ep, ← w.2.1]
      generalize zq2 k (zq1 k (N / 256)) = A at w ⊢
      have g : zpB (N % 256) = (zt2 (zt1 (N % 256)) + zt2 (zt1 (N % 256)) / 16) % 16 := rfl
      rw [g]
      generalize zt2 (zt1 (N % 256)) = B at f ⊢
      have h4 : (256 * A + B) >>> 4 = 16 * A + B / 16 := by rw [Nat.shiftRight_eq_div_pow]; omega
      have h5 : A >>> 4 = A / 16 := by rw [Nat.shiftRight_eq_div_pow]
      have h6 : 256 * A + B + (256 * A + B) >>> 4 = 256 * (A + A >>> 4) + (B + B / 16 + 16 * (A % 16)) := by rw [h4, h5]; omega
      rw [h6, z_and _ _ _ _ (by omega) (by decide)]
      have h7 : (B + B / 16 + 16 * (A % 16)) &&& 15 = (B + B / 16 + 16 * (A % 16)) % 16 := Nat.and_two_pow_sub_one_eq_mod _ 4
      rw [h7]
      unfold zq3
      omega
    · rw [e1]
      have := w.2.2
      have l2 : zt1 (N % 256) ≤ N % 256 := Nat.sub_le _ _
      omega
theorem zmk8 : zmk 85 8 = 6148914691236517205 ∧ zmk 51 8 = 3689348814741910323 ∧ zmk 15 8 = 1085102592571150095 := by decide
theorem zpc_split (a b : Nat) (hb : b < 256) : ∀ m : Nat, pcS (256 * a + b) (8 + m) = pcS b 8 + pcS a m := by
  have bit : ∀ j, (256 * a + b).testBit j = if j < 8 then b.testBit j else a.testBit (j - 8) := fun j => by
    rw [show (256 : Nat) = 2 ^ 8 from rfl, Nat.testBit_two_pow_mul_add a hb]
  intro m
  induction m with
  | zero =>
    show pcS (256 * a + b) 8 = pcS b 8 + 0
    rw [Int.add_zero]
    have : ∀ k, k ≤ 8 → pcS (256 * a + b) k = pcS b k := by
      intro k
      induction k with
      | zero => intro _; rfl
      | succ k ih =>
        intro h
        have e : (256 * a + b).testBit k = b.testBit k := by rw [bit k, if_pos (show k < 8 by omega)]
        unfold pcS
        rw [ih (by omega), e]
    exact this 8 (Nat.le_refl _)
  | succ m ih =>
    show pcS (256 * a + b) (8 + m) + (if (256 * a + b).testBit (8 + m) then 1 else 0) = pcS b 8 + (pcS a m + (if a.testBit m then 1 else 0))
    have e : (256 * a + b).testBit (8 + m) = a.testBit m := by rw [bit (8 + m), if_neg (show ¬ 8 + m < 8 by omega), show 8 + m - 8 = m by omega]
    rw [ih, e]
    omega
def zsB : Nat → Nat → Int
  | 0, _ => 0
  | k + 1, N => ((zpB (N % 256) : Nat) : Int) + zsB k (N / 256)
theorem zsB_pc : ∀ (k N : Nat), zsB k N = pcS N (8 * k) := by
  intro k
  induction k with
  | zero => intro N; rfl
  | succ k ih =>
    intro N
    have hb : N % 256 < 256 := Nat.mod_lt _ (by decide)
    have f := (zpb_fin ⟨N % 256, hb⟩).2.2.2.2.1
    dsimp only at f
    have s := zpc_split (N / 256) (N % 256) hb (8 * k)
    rw [show 256 * (N / 256) + N % 256 = N by omega] at s
    unfold zsB
    rw [ih, f, show 8 * (k + 1) = 8 + 8 * k by omega, s]
theorem zdv {L H M : Nat} (h : L < M) : (L + M * H) / M = H := by rw [Nat.add_mul_div_left _ _ (by omega), Nat.div_eq_of_lt h, Nat.zero_add]
/-- what the last steps make of the bytes' counts -/
theorem zfin {p0 p1 p2 p3 p4 p5 p6 p7 y : Nat} (h : p0 ≤ 8 ∧ p1 ≤ 8 ∧ p2 ≤ 8 ∧ p3 ≤ 8 ∧ p4 ≤ 8 ∧ p5 ≤ 8 ∧ p6 ≤ 8 ∧ p7 ≤ 8) (hy : y = 256 * (256 * (256 * (256 * (256 * (256 * (256 * (256 * 0 + p7) + p6) + p5) + p4) + p3) + p2) + p1) + p0) :
    y < 2 ^ 64 ∧ y + y / 256 < 2 ^ 64 ∧ y + y / 256 + (y + y / 256) / 65536 < 2 ^ 64 ∧ (y + y / 256 + (y + y / 256) / 65536 + (y + y / 256 + (y + y / 256) / 65536) / 4294967296) % 128 = p0 + p1 + p2 + p3 + p4 + p5 + p6 + p7 := by
  have e1 : y / 256 = 256 * (256 * (256 * (256 * (256 * (256 * p7 + p6) + p5) + p4) + p3) + p2) + p1 := by
    have := zdv (L := p0) (H := 256 * (256 * (256 * (256 * (256 * (256 * p7 + p6) + p5) + p4) + p3) + p2) + p1) (M := 256) (by omega)
    rw [← this]
    congr 1
    omega
  rw [e1]
  have hz : y + (256 * (256 * (256 * (256 * (256 * (256 * p7 + p6) + p5) + p4) + p3) + p2) + p1) = ((p0 + p1) + 256 * (p1 + p2)) + 65536 * (256 * (256 * (256 * (256 * (256 * p7 + (p6 + p7)) + (p5 + p6)) + (p4 + p5)) + (p3 + p4)) + (p2 + p3)) := by omega
  rw [hz]
  have e2 : ((p0 + p1) + 256 * (p1 + p2) + 65536 * (256 * (256 * (256 * (256 * (256 * p7 + (p6 + p7)) + (p5 + p6)) + (p4 + p5)) + (p3 + p4)) + (p2 + p3))) / 65536 = 256 * (256 * (256 * (256 * (256 * p7 + (p6 + p7)) + (p5 + p6)) + (p4 + p5)) + (p3 + p4)) + (p2 + p3) := zdv (by omega)
  rw [e2]
  have hv : (p0 + p1) + 256 * (p1 + p2) + 65536 * (256 * (256 * (256 * (256 * (256 * p7 + (p6 + p7)) + (p5 + p6)) + (p4 + p5)) + (p3 + p4)) + (p2 + p3)) + (256 * (256 * (256 * (256 * (256 * p7 + (p6 + p7)) + (p5 + p6)) + (p4 + p5)) + (p3 + p4)) + (p2 + p3)) =
    ((p0 + p1 + p2 + p3) + 256 * (p1 + p2 + p3 + p4) + 65536 * (p2 + p3 + p4 + p5) + 16777216 * (p3 + p4 + p5 + p6)) + 4294967296 * ((p4 + p5 + p6 + p7) + 256 * (p5 + p6 + p7) + 65536 * (p6 + p7) + 16777216 * p7) := by omega
  rw [hv, zdv (by omega)]
  refine ⟨by omega, by omega, by omega, ?_⟩
  have e5 : ((p0 + p1 + p2 + p3) + 256 * (p1 + p2 + p3 + p4) + 65536 * (p2 + p3 + p4 + p5) + 16777216 * (p3 + p4 + p5 + p6)) + 4294967296 * ((p4 + p5 + p6 + p7) + 256 * (p5 + p6 + p7) + 65536 * (p6 + p7) + 16777216 * p7) + ((p4 + p5 + p6 + p7) + 256 * (p5 + p6 + p7) + 65536 * (p6 + p7) + 16777216 * p7) = (p0 + p1 + p2 + p3 + p4 + p5 + p6 + p7) + 128 * (2 * (p1 + p2 + p3 + p4) + 512 * (p2 + p3 + p4 + p5) + 131072 * (p3 + p4 + p5 + p6) + 33554432 * ((p4 + p5 + p6 + p7) + 256 * (p5 + p6 + p7) + 65536 * (p6 + p7) + 16777216 * p7) + 2 * (p5 + p6 + p7) + 512 * (p6 + p7) + 131072 * p7) := by omega
  rw [e5, Nat.add_mul_mod_self_left]
  exact Nat.mod_eq_of_lt (by omega)
section BL_
variable {X : XS} {h : AH} {Q : Option AV → AH → Prop}
theorem C_bitCountL {N : Nat} (hN : N < 2 ^ 64) (hQ : Q (some (vI (pcS N 64))) h) : Cl X kJ13_bitCount_95d88 [vL (N : Int)] h Q := by
  refine cl_of rfl (Nat.le_of_ble_eq_true rfl) rfl ?_
  have k := zq_ok 8 N (by omega)
  have l1 : (N >>> 1) &&& 6148914691236517205 ≤ N := Nat.le_trans Nat.and_le_left (Nat.shiftRight_le _ _)
  have a1 : zq1 8 N = N - ((N >>> 1) &&& 6148914691236517205) := by unfold zq1; rw [zmk8.1]
  have n1 : zq1 8 N < 2 ^ 64 := by omega
  have a2 : ∀ y, zq2 8 y = (y &&& 3689348814741910323) + ((y >>> 2) &&& 3689348814741910323) := fun y => by unfold zq2; rw [zmk8.2.1]
  have a3 : ∀ y, zq3 8 y = (y + (y >>> 4)) &&& 1085102592571150095 := fun y => by unfold zq3; rw [zmk8.2.2]
  refine wp_lload_n dJ13_bitCount_95d88_0 rfl ?_
  refine wp_lload_n dJ13_bitCount_95d88_1 rfl ?_
  refine wp_iconst dJ13_bitCount_95d88_2 ?_
  refine wp_lushr (z := ((N >>> 1 : Nat) : Int)) dJ13_bitCount_95d88_3 (i64_shr N 1 hN _ (by decide) (by decide)) ?_
  refine wp_ldc2 dJ13_bitCount_95d88_4 cJ13_314 ?_
  refine wp_land (z := (((N >>> 1) &&& 6148914691236517205 : Nat) : Int)) dJ13_bitCount_95d88_7 (i64_and ((N >>> 1)) 6148914691236517205) ?_
  refine wp_lsub dJ13_bitCount_95d88_8 ?_
  rw [show (N : Int) - (((N >>> 1) &&& 6148914691236517205 : Nat) : Int) = ((zq1 8 N : Nat) : Int) by omega]
  refine wp_lstore_n (L' := [some (vL ((zq1 8 N : Nat) : Int)), none]) dJ13_bitCount_95d88_9 (by decide) rfl ?_
  generalize hA : zq1 8 N = A at *
  refine wp_lload_n dJ13_bitCount_95d88_10 rfl ?_
  refine wp_ldc2 dJ13_bitCount_95d88_11 cJ13_316 ?_
  refine wp_land (z := ((A &&& 3689348814741910323 : Nat) : Int)) dJ13_bitCount_95d88_14 (i64_and (A) 3689348814741910323) ?_
  refine wp_lload_n dJ13_bitCount_95d88_15 rfl ?_
  refine wp_iconst dJ13_bitCount_95d88_16 ?_
  refine wp_lushr (z := ((A >>> 2 : Nat) : Int)) dJ13_bitCount_95d88_17 (i64_shr A 2 n1 _ (by decide) (by decide)) ?_
  refine wp_ldc2 dJ13_bitCount_95d88_18 cJ13_316 ?_
  refine wp_land (z := (((A >>> 2) &&& 3689348814741910323 : Nat) : Int)) dJ13_bitCount_95d88_21 (i64_and ((A >>> 2)) 3689348814741910323) ?_
  refine wp_ladd dJ13_bitCount_95d88_22 ?_
  have a2A := a2 A
  rw [show (((A &&& 3689348814741910323 : Nat) : Int) + (((A >>> 2) &&& 3689348814741910323 : Nat) : Int)) = ((zq2 8 A : Nat) : Int) by omega]
  have b1 : A &&& 3689348814741910323 ≤ 3689348814741910323 := Nat.and_le_right
  have b2 : (A >>> 2) &&& 3689348814741910323 ≤ 3689348814741910323 := Nat.and_le_right
  have n2 : zq2 8 A < 2 ^ 64 := by omega
  refine wp_lstore_n (L' := [some (vL ((zq2 8 A : Nat) : Int)), none]) dJ13_bitCount_95d88_23 (by decide) rfl ?_
  have n2b : zq2 8 A ≤ 7378697629483820646 := by omega
  generalize hB : zq2 8 A = E at *
  refine wp_lload_n dJ13_bitCount_95d88_24 rfl ?_
  refine wp_lload_n dJ13_bitCount_95d88_25 rfl ?_
  refine wp_iconst dJ13_bitCount_95d88_26 ?_
  refine wp_lushr (z := ((E >>> 4 : Nat) : Int)) dJ13_bitCount_95d88_27 (i64_shr E 4 n2 _ (by decide) (by decide)) ?_
  refine wp_ladd dJ13_bitCount_95d88_28 ?_
  rw [show ((E : Nat) : Int) + ((E >>> 4 : Nat) : Int) = ((E + E >>> 4 : Nat) : Int) by omega]
  refine wp_ldc2 dJ13_bitCount_95d88_29 cJ13_318 ?_
  refine wp_land (z := (((E + E >>> 4) &&& 1085102592571150095 : Nat) : Int)) dJ13_bitCount_95d88_32 (i64_and ((E + E >>> 4)) 1085102592571150095) ?_
  rw [← a3 E, k.2.1]
  refine wp_lstore_n (L' := [some (vL ((zPB 8 N : Nat) : Int)), none]) dJ13_bitCount_95d88_33 (by decide) rfl ?_
  have f := fun (b : Nat) (hb : b < 256) => (zpb_fin ⟨b, hb⟩).2.2.2.2.2
  have fs := zfin (p0 := zpB (N % 256)) (p1 := zpB ((N / 256) % 256)) (p2 := zpB (((N / 256) / 256) % 256)) (p3 := zpB ((((N / 256) / 256) / 256) % 256)) (p4 := zpB (((((N / 256) / 256) / 256) / 256) % 256)) (p5 := zpB ((((((N / 256) / 256) / 256) / 256) / 256) % 256)) (p6 := zpB (((((((N / 256) / 256) / 256) / 256) / 256) / 256) % 256)) (p7 := zpB ((((((((N / 256) / 256) / 256) / 256) / 256) / 256) / 256) % 256)) (y := zPB 8 N) ⟨f (N % 256) (Nat.mod_lt _ (by decide)), f ((N / 256) % 256) (Nat.mod_lt _ (by decide)), f (((N / 256) / 256) % 256) (Nat.mod_lt _ (by decide)), f ((((N / 256) / 256) / 256) % 256) (Nat.mod_lt _ (by decide)), f (((((N / 256) / 256) / 256) / 256) % 256) (Nat.mod_lt _ (by decide)), f ((((((N / 256) / 256) / 256) / 256) / 256) % 256) (Nat.mod_lt _ (by decide)), f (((((((N / 256) / 256) / 256) / 256) / 256) / 256) % 256) (Nat.mod_lt _ (by decide)), f ((((((((N / 256) / 256) / 256) / 256) / 256) / 256) / 256) % 256) (Nat.mod_lt _ (by decide))⟩ rfl
  have ss : pcS N 64 = ((zpB (N % 256) + zpB ((N / 256) % 256) + zpB (((N / 256) / 256) % 256) + zpB ((((N / 256) / 256) / 256) % 256) + zpB (((((N / 256) / 256) / 256) / 256) % 256) + zpB ((((((N / 256) / 256) / 256) / 256) / 256) % 256) + zpB (((((((N / 256) / 256) / 256) / 256) / 256) / 256) % 256) + zpB ((((((((N / 256) / 256) / 256) / 256) / 256) / 256) / 256) % 256) : Nat) : Int) := by
    have q := zsB_pc 8 N
    have q2 : zsB 8 N = ((zpB (N % 256) : Nat) : Int) + (((zpB ((N / 256) % 256) : Nat) : Int) + (((zpB (((N / 256) / 256) % 256) : Nat) : Int) + (((zpB ((((N / 256) / 256) / 256) % 256) : Nat) : Int) + (((zpB (((((N / 256) / 256) / 256) / 256) % 256) : Nat) : Int) + (((zpB ((((((N / 256) / 256) / 256) / 256) / 256) % 256) : Nat) : Int) + (((zpB (((((((N / 256) / 256) / 256) / 256) / 256) / 256) % 256) : Nat) : Int) + (((zpB ((((((((N / 256) / 256) / 256) / 256) / 256) / 256) / 256) % 256) : Nat) : Int) + (0)))))))) := rfl
    have q3 : pcS N 64 = zsB 8 N := q.symm
    omega
  rw [ss] at hQ
  rw [← fs.2.2.2] at hQ
  generalize zPB 8 N = Y at *
  refine wp_lload_n dJ13_bitCount_95d88_34 rfl ?_
  refine wp_lload_n dJ13_bitCount_95d88_35 rfl ?_
  refine wp_bipush dJ13_bitCount_95d88_36 rfl ?_
  refine wp_lushr (z := ((Y >>> 8 : Nat) : Int)) dJ13_bitCount_95d88_38 (i64_shr Y 8 fs.1 _ (by decide) (by decide)) ?_
  refine wp_ladd dJ13_bitCount_95d88_39 ?_
  rw [show ((Y : Nat) : Int) + ((Y >>> 8 : Nat) : Int) = ((Y + Y / 256 : Nat) : Int) by rw [Nat.shiftRight_eq_div_pow]; omega]
  refine wp_lstore_n (L' := [some (vL ((Y + Y / 256 : Nat) : Int)), none]) dJ13_bitCount_95d88_40 (by decide) rfl ?_
  generalize Y + Y / 256 = Y1 at *
  refine wp_lload_n dJ13_bitCount_95d88_41 rfl ?_
  refine wp_lload_n dJ13_bitCount_95d88_42 rfl ?_
  refine wp_bipush dJ13_bitCount_95d88_43 rfl ?_
  refine wp_lushr (z := ((Y1 >>> 16 : Nat) : Int)) dJ13_bitCount_95d88_45 (i64_shr Y1 16 fs.2.1 _ (by decide) (by decide)) ?_
  refine wp_ladd dJ13_bitCount_95d88_46 ?_
  rw [show ((Y1 : Nat) : Int) + ((Y1 >>> 16 : Nat) : Int) = ((Y1 + Y1 / 65536 : Nat) : Int) by rw [Nat.shiftRight_eq_div_pow]; omega]
  refine wp_lstore_n (L' := [some (vL ((Y1 + Y1 / 65536 : Nat) : Int)), none]) dJ13_bitCount_95d88_47 (by decide) rfl ?_
  generalize Y1 + Y1 / 65536 = Y2 at *
  refine wp_lload_n dJ13_bitCount_95d88_48 rfl ?_
  refine wp_lload_n dJ13_bitCount_95d88_49 rfl ?_
  refine wp_bipush dJ13_bitCount_95d88_50 rfl ?_
  refine wp_lushr (z := ((Y2 >>> 32 : Nat) : Int)) dJ13_bitCount_95d88_52 (i64_shr Y2 32 fs.2.2.1 _ (by decide) (by decide)) ?_
  refine wp_ladd dJ13_bitCount_95d88_53 ?_
  rw [show ((Y2 : Nat) : Int) + ((Y2 >>> 32 : Nat) : Int) = ((Y2 + Y2 / 4294967296 : Nat) : Int) by rw [Nat.shiftRight_eq_div_pow]; omega]
  refine wp_lstore_n (L' := [some (vL ((Y2 + Y2 / 4294967296 : Nat) : Int)), none]) dJ13_bitCount_95d88_54 (by decide) rfl ?_
  generalize Y2 + Y2 / 4294967296 = Y3 at *
  refine wp_lload_n dJ13_bitCount_95d88_55 rfl ?_
  refine wp_l2i dJ13_bitCount_95d88_56 ?_
  refine wp_bipush dJ13_bitCount_95d88_57 rfl ?_
  refine wp_iand (z := ((Y3 &&& 127 : Nat) : Int)) dJ13_bitCount_95d88_59 (i32_and Y3 127) ?_
  rw [Nat.and_two_pow_sub_one_eq_mod Y3 7]
  exact wp_iret dJ13_bitCount_95d88_60 rfl hQ
end BL_
