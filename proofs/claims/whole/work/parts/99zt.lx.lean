/-! acts that are told, both sides -/
section LX_
variable {X : XS} {h : AH} {Q : Option AV → AH → Prop} {B : Int}

set_option maxHeartbeats 1000000 in
theorem S_get {c k : Int} (hI : INV B h) (hB : 1000 ≤ B ∧ B + 108000 ≤ 8000000) (rc : r32 c) (rk : r32 k) (hQ : ∀ y h', (∃ fs, h'[51]? = some (oO 7 fs)) → Nx X kX7_get [vR 51, vI c, vI k] (vI y) (B + 3000) h' → Q (some (vI y)) h') : Cl X kX6_get [vR 0, vI c, vI k] h Q := by
  obtain ⟨f, g, hr, bh, ah, sl, rw_, kp, ko, Rc, Zc, T, ln, pl, Kq, Fs, S, sz, Kp, dn, km, P, PS, R, Z, I, ik, C, M, J⟩ := hI
  have hK := J.1.1
  have hW := hK.iw hB.1
  have h57 : f 5 ≤ 100 ∧ f 7 ≤ 100 := by
    have q2 : f 5 = g 5 := hK.1.1.T 2 (by omega)
    have q4 : f 7 = g 7 := hK.1.1.T 4 (by omega)
    have := hK.2.1.set
    omega
  obtain ⟨a1, a2, a3⟩ := A_get (c := c) (k := k) hK (by omega)
  refine F_cget C.1 hW.1 (by omega) rc rk a2.1.1.Z (by rw [a1]; exact a3.2) fun h' hr' bh' ah' sl' rw' c1 c2 c3 => ?_
  rw [a1] at c3 ⊢
  refine hQ _ h' (mo M (by first | rfl | exact (‹FA h _›).2 51 (by omega) (by omega) (by omega) (by omega) (by omega))) fun Q' hQ' => ?_
  refine F_rget (M.fa fun i q1 q2 => c2.2 i (by omega) q2 (by omega) (by omega) (by omega)) hK.2.1 (by omega) (by have := J.1.2.2.2.1; omega) rc rk a3.2 fun h'' Kp' dn' km' m1 m2 m3 => hQ' _ (INV.mk ((C.fa c1 c2).fr m2) m1 ⟨?_, ?_⟩)
  · exact rr_told J.1 (a2.up (by omega)) (by omega) c3 m3 a3
  · exact (J.up (C := B + 3000) (by omega)).2

set_option maxHeartbeats 1000000 in
theorem S_look {c : Int} (hI : INV B h) (hB : 1000 ≤ B ∧ B + 108000 ≤ 8000000) (rc : r32 c) (hQ : ∀ y h', (∃ fs, h'[51]? = some (oO 7 fs)) → Nx X kX7_look [vR 51, vI c] (vI y) (B + 3000) h' → Q (some (vI y)) h') : Cl X kX6_look [vR 0, vI c] h Q := by
  obtain ⟨f, g, hr, bh, ah, sl, rw_, kp, ko, Rc, Zc, T, ln, pl, Kq, Fs, S, sz, Kp, dn, km, P, PS, R, Z, I, ik, C, M, J⟩ := hI
  have hK := J.1.1
  have hW := hK.iw hB.1
  have h57 : f 5 ≤ 100 ∧ f 7 ≤ 100 := by
    have q2 : f 5 = g 5 := hK.1.1.T 2 (by omega)
    have q4 : f 7 = g 7 := hK.1.1.T 4 (by omega)
    have := hK.2.1.set
    omega
  obtain ⟨a1, a2, a3⟩ := A_look (c := c) hK (by omega)
  refine F_clook C.1 hW.1 (by omega) rc a2.1.1.Z (by rw [a1]; exact a3.2) fun h' hr' bh' ah' sl' rw' c1 c2 c3 => ?_
  rw [a1] at c3 ⊢
  refine hQ _ h' (mo M (by first | rfl | exact (‹FA h _›).2 51 (by omega) (by omega) (by omega) (by omega) (by omega))) fun Q' hQ' => ?_
  refine F_rlook (M.fa fun i q1 q2 => c2.2 i (by omega) q2 (by omega) (by omega) (by omega)) hK.2.1 (by omega) (by have := J.1.2.2.2.1; omega) rc a3.2 fun h'' Kp' dn' km' m1 m2 m3 => hQ' _ (INV.mk ((C.fa c1 c2).fr m2) m1 ⟨?_, ?_⟩)
  · exact rr_told J.1 (a2.up (by omega)) (by omega) c3 m3 a3
  · exact (J.up (C := B + 3000) (by omega)).2

set_option maxHeartbeats 1000000 in
theorem S_fill {c : Int} (hI : INV B h) (hB : 1000 ≤ B ∧ B + 108000 ≤ 8000000) (rc : r32 c) (hQ : ∀ y h', (∃ fs, h'[51]? = some (oO 7 fs)) → Nx X kX7_fill [vR 51, vI c] (vI y) (B + 3000) h' → Q (some (vI y)) h') : Cl X kX6_fill [vR 0, vI c] h Q := by
  obtain ⟨f, g, hr, bh, ah, sl, rw_, kp, ko, Rc, Zc, T, ln, pl, Kq, Fs, S, sz, Kp, dn, km, P, PS, R, Z, I, ik, C, M, J⟩ := hI
  have hK := J.1.1
  have hW := hK.iw hB.1
  have h57 : f 5 ≤ 100 ∧ f 7 ≤ 100 := by
    have q2 : f 5 = g 5 := hK.1.1.T 2 (by omega)
    have q4 : f 7 = g 7 := hK.1.1.T 4 (by omega)
    have := hK.2.1.set
    omega
  obtain ⟨a1, a2, a3⟩ := A_fill (c := c) hK (by omega)
  refine F_cfill C.1 hW.1 (by omega) rc hW.2 a2.1.1.Z (by rw [a1]; exact a3.2) fun h' hr' bh' ah' sl' rw' c1 c2 c3 => ?_
  rw [a1] at c3 ⊢
  refine hQ _ h' (mo M (by first | rfl | exact (‹FA h _›).2 51 (by omega) (by omega) (by omega) (by omega) (by omega))) fun Q' hQ' => ?_
  refine F_rfill (M.fa fun i q1 q2 => c2.2 i (by omega) q2 (by omega) (by omega) (by omega)) hK.2.1 (by omega) (by have := J.1.2.2.2.1; omega) rc a3.2 fun h'' Kp' dn' km' m1 m2 m3 => hQ' _ (INV.mk ((C.fa c1 c2).fr m2) m1 ⟨?_, ?_⟩)
  · exact rr_told J.1 (a2.up (by omega)) (by omega) c3 m3 a3
  · exact (J.up (C := B + 3000) (by omega)).2

set_option maxHeartbeats 1000000 in
theorem S_write {c k v : Int} (hI : INV B h) (hB : 1000 ≤ B ∧ B + 108000 ≤ 8000000) (rc : r32 c) (rk : r32 k) (rv : r32 v) (hQ : ∀ y h', (∃ fs, h'[51]? = some (oO 7 fs)) → Nx X kX7_write [vR 51, vI c, vI k, vI v] (vI y) (B + 3000) h' → Q (some (vI y)) h') : Cl X kX6_write [vR 0, vI c, vI k, vI v] h Q := by
  obtain ⟨f, g, hr, bh, ah, sl, rw_, kp, ko, Rc, Zc, T, ln, pl, Kq, Fs, S, sz, Kp, dn, km, P, PS, R, Z, I, ik, C, M, J⟩ := hI
  have hK := J.1.1
  have hW := hK.iw hB.1
  have h57 : f 5 ≤ 100 ∧ f 7 ≤ 100 := by
    have q2 : f 5 = g 5 := hK.1.1.T 2 (by omega)
    have q4 : f 7 = g 7 := hK.1.1.T 4 (by omega)
    have := hK.2.1.set
    omega
  obtain ⟨a1, a2, a3⟩ := A_write (c := c) (k := k) (v := v) hK (by omega)
  refine F_cwrite C.1 hW.1 (by omega) rc rk rv h57.1 h57.2 a2.1.1.Z (by rw [a1]; exact a3.2) fun h' hr' bh' ah' sl' rw' c1 c2 c3 => ?_
  rw [a1] at c3 ⊢
  refine hQ _ h' (mo M (by first | rfl | exact (‹FA h _›).2 51 (by omega) (by omega) (by omega) (by omega) (by omega))) fun Q' hQ' => ?_
  refine F_rwrite (M.fa fun i q1 q2 => c2.2 i (by omega) q2 (by omega) (by omega) (by omega)) hK.2.1 (by omega) (by have := J.1.2.2.2.1; omega) rc rk rv a3.2 fun h'' Kp' dn' km' m1 m2 m3 => hQ' _ (INV.mk ((C.fa c1 c2).fr m2) m1 ⟨?_, ?_⟩)
  · exact rr_told J.1 (a2.up (by omega)) (by omega) c3 m3 a3
  · exact (J.up (C := B + 3000) (by omega)).2

set_option maxHeartbeats 1000000 in
theorem S_apply {r : Int} (hI : INV B h) (hB : 1000 ≤ B ∧ B + 108000 ≤ 8000000) (rr : r32 r) (hQ : ∀ y h', (∃ fs, h'[51]? = some (oO 7 fs)) → Nx X kX7_apply [vR 51, vI r] (vI y) (B + 3000) h' → Q (some (vI y)) h') : Cl X kX6_apply [vR 0, vI r] h Q := by
  obtain ⟨f, g, hr, bh, ah, sl, rw_, kp, ko, Rc, Zc, T, ln, pl, Kq, Fs, S, sz, Kp, dn, km, P, PS, R, Z, I, ik, C, M, J⟩ := hI
  have hK := J.1.1
  have hW := hK.iw hB.1
  have h57 : f 5 ≤ 100 ∧ f 7 ≤ 100 := by
    have q2 : f 5 = g 5 := hK.1.1.T 2 (by omega)
    have q4 : f 7 = g 7 := hK.1.1.T 4 (by omega)
    have := hK.2.1.set
    omega
  obtain ⟨a1, a2, a3⟩ := A_apply (r := r) hK (by omega)
  refine F_capply C.1 hW.1 (by omega) rr h57.1 h57.2 a2.1.1.Z (by rw [a1]; exact a3.2) fun h' hr' bh' ah' sl' rw' c1 c2 c3 => ?_
  rw [a1] at c3 ⊢
  refine hQ _ h' (mo M (by first | rfl | exact (‹FA h _›).2 51 (by omega) (by omega) (by omega) (by omega) (by omega))) fun Q' hQ' => ?_
  refine F_rapply (M.fa fun i q1 q2 => c2.2 i (by omega) q2 (by omega) (by omega) (by omega)) hK.2.1 (by omega) (by have := J.1.2.2.2.1; omega) rr hK.2.2.1 a3.2 fun h'' Kp' dn' km' m1 m2 m3 => hQ' _ (INV.mk ((C.fa c1 c2).fr m2) m1 ⟨?_, ?_⟩)
  · exact rr_told J.1 (a2.up (by omega)) (by omega) c3 m3 a3
  · exact (J.up (C := B + 3000) (by omega)).2

set_option maxHeartbeats 1000000 in
theorem S_tick {n : Int} (hI : INV B h) (hB : 1000 ≤ B ∧ B + 108000 ≤ 8000000) (rn : r32 n) (hQ : ∀ y h', (∃ fs, h'[51]? = some (oO 7 fs)) → Nx X kX7_tick [vR 51, vI n] (vI y) (B + 3000) h' → Q (some (vI y)) h') : Cl X kX6_tick [vR 0, vI n] h Q := by
  obtain ⟨f, g, hr, bh, ah, sl, rw_, kp, ko, Rc, Zc, T, ln, pl, Kq, Fs, S, sz, Kp, dn, km, P, PS, R, Z, I, ik, C, M, J⟩ := hI
  have hK := J.1.1
  have hW := hK.iw hB.1
  have h57 : f 5 ≤ 100 ∧ f 7 ≤ 100 := by
    have q2 : f 5 = g 5 := hK.1.1.T 2 (by omega)
    have q4 : f 7 = g 7 := hK.1.1.T 4 (by omega)
    have := hK.2.1.set
    omega
  obtain ⟨a1, a2, a3⟩ := A_tick (n := n) hK (by omega)
  refine F_ctick C.1 hW.1 (by omega) rn a2.1.1.Z (by rw [a1]; exact a3.2) fun h' hr' bh' ah' sl' rw' c1 c2 c3 => ?_
  rw [a1] at c3 ⊢
  refine hQ _ h' (mo M (by first | rfl | exact (‹FA h _›).2 51 (by omega) (by omega) (by omega) (by omega) (by omega))) fun Q' hQ' => ?_
  refine F_rtick (M.fa fun i q1 q2 => c2.2 i (by omega) q2 (by omega) (by omega) (by omega)) hK.2.1 (by omega) (by have := J.1.2.2.2.1; omega) rn a3.2 fun h'' Kp' dn' km' m1 m2 m3 => hQ' _ (INV.mk ((C.fa c1 c2).fr m2) m1 ⟨?_, ?_⟩)
  · exact rr_told J.1 (a2.up (by omega)) (by omega) c3 m3 a3
  · exact (J.up (C := B + 3000) (by omega)).2

set_option maxHeartbeats 1000000 in
theorem S_cold {a v : Int} (hI : INV B h) (hB : 1000 ≤ B ∧ B + 108000 ≤ 8000000) (ra : r32 a) (rv : r32 v) (hQ : ∀ y h', (∃ fs, h'[51]? = some (oO 7 fs)) → Nx X kX7_cold [vR 51, vI a, vI v] (vI y) (B + 3000) h' → Q (some (vI y)) h') : Cl X kX6_cold [vR 0, vI a, vI v] h Q := by
  obtain ⟨f, g, hr, bh, ah, sl, rw_, kp, ko, Rc, Zc, T, ln, pl, Kq, Fs, S, sz, Kp, dn, km, P, PS, R, Z, I, ik, C, M, J⟩ := hI
  have hK := J.1.1
  have hW := hK.iw hB.1
  have h57 : f 5 ≤ 100 ∧ f 7 ≤ 100 := by
    have q2 : f 5 = g 5 := hK.1.1.T 2 (by omega)
    have q4 : f 7 = g 7 := hK.1.1.T 4 (by omega)
    have := hK.2.1.set
    omega
  obtain ⟨a1, a2, a3⟩ := A_cold (a := a) (v := v) hK (by omega)
  refine F_ccold C.1 hW.1 (by omega) ra rv a2.1.1.Z (by rw [a1]; exact a3.2) fun h' hr' bh' ah' sl' rw' c1 c2 c3 => ?_
  rw [a1] at c3 ⊢
  refine hQ _ h' (mo M (by first | rfl | exact (‹FA h _›).2 51 (by omega) (by omega) (by omega) (by omega) (by omega))) fun Q' hQ' => ?_
  refine F_rcold (M.fa fun i q1 q2 => c2.2 i (by omega) q2 (by omega) (by omega) (by omega)) hK.2.1 (by omega) (by have := J.1.2.2.2.1; omega) ra rv a3.2 fun h'' Kp' dn' km' m1 m2 m3 => hQ' _ (INV.mk ((C.fa c1 c2).fr m2) m1 ⟨?_, ?_⟩)
  · exact rr_told J.1 (a2.up (by omega)) (by omega) c3 m3 a3
  · exact (J.up (C := B + 3000) (by omega)).2

set_option maxHeartbeats 1000000 in
theorem S_go {c a : Int} (hI : INV B h) (hB : 1000 ≤ B ∧ B + 108000 ≤ 8000000) (rc : r32 c) (ra : r32 a) (hQ : ∀ y h', (∃ fs, h'[51]? = some (oO 7 fs)) → Nx X kX7_go [vR 51, vI c, vI a] (vI y) (B + 3000) h' → Q (some (vI y)) h') : Cl X kX6_go [vR 0, vI c, vI a] h Q := by
  obtain ⟨f, g, hr, bh, ah, sl, rw_, kp, ko, Rc, Zc, T, ln, pl, Kq, Fs, S, sz, Kp, dn, km, P, PS, R, Z, I, ik, C, M, J⟩ := hI
  have hK := J.1.1
  have hW := hK.iw hB.1
  have h57 : f 5 ≤ 100 ∧ f 7 ≤ 100 := by
    have q2 : f 5 = g 5 := hK.1.1.T 2 (by omega)
    have q4 : f 7 = g 7 := hK.1.1.T 4 (by omega)
    have := hK.2.1.set
    omega
  obtain ⟨a1, a2, a3⟩ := A_go (c := c) (a := a) hK (by omega)
  refine F_cgo C.1 hW.1 (by omega) rc ra a2.1.1.Z (by rw [a1]; exact a3.2) fun h' hr' bh' ah' sl' rw' c1 c2 c3 => ?_
  rw [a1] at c3 ⊢
  refine hQ _ h' (mo M (by first | rfl | exact (‹FA h _›).2 51 (by omega) (by omega) (by omega) (by omega) (by omega))) fun Q' hQ' => ?_
  refine F_rgo (M.fa fun i q1 q2 => c2.2 i (by omega) q2 (by omega) (by omega) (by omega)) hK.2.1 (by omega) (by have := J.1.2.2.2.1; omega) rc ra a3.2 fun h'' Kp' dn' km' m1 m2 m3 => hQ' _ (INV.mk ((C.fa c1 c2).fr m2) m1 ⟨?_, ?_⟩)
  · exact rr_told J.1 (a2.up (by omega)) (by omega) c3 m3 a3
  · exact (J.up (C := B + 3000) (by omega)).2

set_option maxHeartbeats 1000000 in
theorem S_set {i v : Int} (hI : INV B h) (hB : 1000 ≤ B ∧ B + 108000 ≤ 8000000) (ri : r32 i) (rv : r32 v) (hQ : ∀ y h', (∃ fs, h'[51]? = some (oO 7 fs)) → Nx X kX7_set [vR 51, vI i, vI v] (vI y) (B + 3000) h' → Q (some (vI y)) h') : Cl X kX6_set [vR 0, vI i, vI v] h Q := by
  obtain ⟨f, g, hr, bh, ah, sl, rw_, kp, ko, Rc, Zc, T, ln, pl, Kq, Fs, S, sz, Kp, dn, km, P, PS, R, Z, I, ik, C, M, J⟩ := hI
  have hK := J.1.1
  have hW := hK.iw hB.1
  have h57 : f 5 ≤ 100 ∧ f 7 ≤ 100 := by
    have q2 : f 5 = g 5 := hK.1.1.T 2 (by omega)
    have q4 : f 7 = g 7 := hK.1.1.T 4 (by omega)
    have := hK.2.1.set
    omega
  obtain ⟨a1, a2, a3⟩ := A_set (i := i) (v := v) hK (by omega)
  refine F_cset C.1 hW.1 (by omega) ri rv a2.1.1.Z (by rw [a1]; exact a3.2) fun h' hr' bh' ah' sl' rw' c1 c2 c3 => ?_
  rw [a1] at c3 ⊢
  refine hQ _ h' (mo M (by first | rfl | exact (‹FA h _›).2 51 (by omega) (by omega) (by omega) (by omega) (by omega))) fun Q' hQ' => ?_
  refine F_rset (M.fa fun i q1 q2 => c2.2 i (by omega) q2 (by omega) (by omega) (by omega)) hK.2.1 (by omega) (by have := J.1.2.2.2.1; omega) ri rv a3.2 fun h'' Kp' dn' km' m1 m2 m3 => hQ' _ (INV.mk ((C.fa c1 c2).fr m2) m1 ⟨?_, ?_⟩)
  · exact rr_told J.1 (a2.up (by omega)) (by omega) c3 m3 a3
  · exact (J.up (C := B + 3000) (by omega)).2

set_option maxHeartbeats 1000000 in
theorem S_next (hI : INV B h) (hB : 1000 ≤ B ∧ B + 108000 ≤ 8000000)  (hQ : ∀ y h', (∃ fs, h'[51]? = some (oO 7 fs)) → Nx X kX7_next [vR 51] (vI y) (B + 3000) h' → Q (some (vI y)) h') : Cl X kX6_next [vR 0] h Q := by
  obtain ⟨f, g, hr, bh, ah, sl, rw_, kp, ko, Rc, Zc, T, ln, pl, Kq, Fs, S, sz, Kp, dn, km, P, PS, R, Z, I, ik, C, M, J⟩ := hI
  have hK := J.1.1
  have hW := hK.iw hB.1
  obtain ⟨v0, hv0⟩ := rd_ex hK.2.1 (by omega)
  obtain ⟨a1, a2, a3⟩ := A_next hK (by omega) hv0
  refine F_cnext C.1 hW.1 (by omega) a2.1.1.Z (by rw [a1]; exact a3.2) fun h' hr' bh' ah' sl' rw' c1 c2 c3 => ?_
  refine hQ _ h' (mo M (by first | rfl | exact (‹FA h _›).2 51 (by omega) (by omega) (by omega) (by omega) (by omega))) fun Q' hQ' => ?_
  refine F_rnext (M.fa fun i q1 q2 => c2.2 i (by omega) q2 (by omega) (by omega) (by omega)) hK.2.1 (by omega) (by have := J.1.2.2.2.1; omega) fun v hv h'' Kp' dn' km' m1 m2 m3 => ?_
  obtain ⟨b1, b2, b3⟩ := A_next hK (by omega) hv
  rw [b1] at c3
  rw [← b1]
  refine hQ' _ (INV.mk ((C.fa c1 c2).fr m2) m1 ⟨?_, ?_⟩)
  · exact rr_told J.1 (b2.up (by omega)) (by omega) c3 m3 b3
  · exact (J.up (C := B + 3000) (by omega)).2

end LX_
