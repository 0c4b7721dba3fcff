/-! questions, both sides -/
section LY_
variable {X : XS} {h : AH} {Q : Option AV → AH → Prop} {B : Int}

set_option maxHeartbeats 1000000 in
theorem S_setting {i : Int} (hI : INV B h) (hB : 1000 ≤ B ∧ B + 108000 ≤ 8000000) (ri : r32 i) (hQ : ∀ y h', (∃ fs, h'[51]? = some (oO 7 fs)) → Nx X kX7_setting [vR 51, vI i] (vI y) (B + 3000) h' → Q (some (vI y)) h') : Cl X kX6_setting [vR 0, vI i] h Q := by
  have hI0 := hI
  obtain ⟨f, g, hr, bh, ah, sl, rw_, kp, ko, Rc, Zc, T, ln, pl, Kq, Fs, S, sz, Kp, dn, km, P, PS, R, Z, I, ik, C, M, J⟩ := hI
  have hK := J.1.1
  have hW := hK.iw hB.1
  have h2 := C.1.2.2.1
  have m2 := m52 M
  refine sa_of h2 (C_csetting C.1.2.1 C.1.1 hW.1 (by omega) ri ?_)
  rw [set_same h2, q_setting hK.1 i]
  refine hQ _ h (mo M (by first | rfl | exact (‹FA h _›).2 51 (by omega) (by omega) (by omega) (by omega) (by omega))) fun Q' hQ' => ?_
  refine sa_of m2 (C_rsetting M.sa hK.2.1 (by omega) ri ?_)
  rw [set_same m2]
  exact hQ' _ (hI0.up (by omega))

set_option maxHeartbeats 1000000 in
theorem S_entry {a k i : Int} (hI : INV B h) (hB : 1000 ≤ B ∧ B + 108000 ≤ 8000000) (ra : r32 a) (rk : r32 k) (ri : r32 i) (hQ : ∀ y h', (∃ fs, h'[51]? = some (oO 7 fs)) → Nx X kX7_entry [vR 51, vI a, vI k, vI i] (vI y) (B + 3000) h' → Q (some (vI y)) h') : Cl X kX6_entry [vR 0, vI a, vI k, vI i] h Q := by
  have hI0 := hI
  obtain ⟨f, g, hr, bh, ah, sl, rw_, kp, ko, Rc, Zc, T, ln, pl, Kq, Fs, S, sz, Kp, dn, km, P, PS, R, Z, I, ik, C, M, J⟩ := hI
  have hK := J.1.1
  have hW := hK.iw hB.1
  have h2 := C.1.2.2.1
  have m2 := m52 M
  refine sa_of h2 (C_centry C.1.2.1 C.1.1 hW.1 (by omega) ra rk ri ?_)
  rw [set_same h2, q_entry hK.1 a k i]
  refine hQ _ h (mo M (by first | rfl | exact (‹FA h _›).2 51 (by omega) (by omega) (by omega) (by omega) (by omega))) fun Q' hQ' => ?_
  refine sa_of m2 (C_rentry M.sa hK.2.1 (by omega) ra rk ri ?_)
  rw [set_same m2]
  exact hQ' _ (hI0.up (by omega))

set_option maxHeartbeats 1000000 in
theorem S_beside {a k i : Int} (hI : INV B h) (hB : 1000 ≤ B ∧ B + 108000 ≤ 8000000) (ra : r32 a) (rk : r32 k) (ri : r32 i) (hQ : ∀ y h', (∃ fs, h'[51]? = some (oO 7 fs)) → Nx X kX7_beside [vR 51, vI a, vI k, vI i] (vI y) (B + 3000) h' → Q (some (vI y)) h') : Cl X kX6_beside [vR 0, vI a, vI k, vI i] h Q := by
  have hI0 := hI
  obtain ⟨f, g, hr, bh, ah, sl, rw_, kp, ko, Rc, Zc, T, ln, pl, Kq, Fs, S, sz, Kp, dn, km, P, PS, R, Z, I, ik, C, M, J⟩ := hI
  have hK := J.1.1
  have hW := hK.iw hB.1
  have h2 := C.1.2.2.1
  have m2 := m52 M
  refine sa_of h2 (C_cbeside C.1.2.1 C.1.1 hW.1 (by omega) ra rk ri ?_)
  rw [set_same h2, q_beside hK.1 a k i]
  refine hQ _ h (mo M (by first | rfl | exact (‹FA h _›).2 51 (by omega) (by omega) (by omega) (by omega) (by omega))) fun Q' hQ' => ?_
  refine sa_of m2 (C_rbeside M.sa hK.2.1 (by omega) ra rk ri ?_)
  rw [set_same m2]
  exact hQ' _ (hI0.up (by omega))

set_option maxHeartbeats 1000000 in
theorem S_client {c i : Int} (hI : INV B h) (hB : 1000 ≤ B ∧ B + 108000 ≤ 8000000) (rc : r32 c) (ri : r32 i) (hQ : ∀ y h', (∃ fs, h'[51]? = some (oO 7 fs)) → Nx X kX7_client [vR 51, vI c, vI i] (vI y) (B + 3000) h' → Q (some (vI y)) h') : Cl X kX6_client [vR 0, vI c, vI i] h Q := by
  have hI0 := hI
  obtain ⟨f, g, hr, bh, ah, sl, rw_, kp, ko, Rc, Zc, T, ln, pl, Kq, Fs, S, sz, Kp, dn, km, P, PS, R, Z, I, ik, C, M, J⟩ := hI
  have hK := J.1.1
  have hW := hK.iw hB.1
  have h2 := C.1.2.2.1
  have m2 := m52 M
  refine sa_of h2 (C_cclient C.1.2.1 C.1.1 hW.1 (by omega) rc ri ?_)
  rw [set_same h2, q_client hK.1 hK.2.1 c i]
  refine hQ _ h (mo M (by first | rfl | exact (‹FA h _›).2 51 (by omega) (by omega) (by omega) (by omega) (by omega))) fun Q' hQ' => ?_
  refine sa_of m2 (C_rclient M.sa hK.2.1 (by omega) rc ri ?_)
  rw [set_same m2]
  exact hQ' _ (hI0.up (by omega))

set_option maxHeartbeats 1000000 in
theorem S_store {r k i : Int} (hI : INV B h) (hB : 1000 ≤ B ∧ B + 108000 ≤ 8000000) (rr : r32 r) (rk : r32 k) (ri : r32 i) (hQ : ∀ y h', (∃ fs, h'[51]? = some (oO 7 fs)) → Nx X kX7_store [vR 51, vI r, vI k, vI i] (vI y) (B + 3000) h' → Q (some (vI y)) h') : Cl X kX6_store [vR 0, vI r, vI k, vI i] h Q := by
  have hI0 := hI
  obtain ⟨f, g, hr, bh, ah, sl, rw_, kp, ko, Rc, Zc, T, ln, pl, Kq, Fs, S, sz, Kp, dn, km, P, PS, R, Z, I, ik, C, M, J⟩ := hI
  have hK := J.1.1
  have hW := hK.iw hB.1
  have h2 := C.1.2.2.1
  have m2 := m52 M
  refine sa_of h2 (C_cstore C.1.2.1 C.1.1 hW.1 (by omega) rr rk ri ?_)
  rw [set_same h2, q_store hK.1 hK.2.1 r k i]
  refine hQ _ h (mo M (by first | rfl | exact (‹FA h _›).2 51 (by omega) (by omega) (by omega) (by omega) (by omega))) fun Q' hQ' => ?_
  refine sa_of m2 (C_rstore M.sa hK.2.1 (by omega) rr rk ri ?_)
  rw [set_same m2]
  exact hQ' _ (hI0.up (by omega))

set_option maxHeartbeats 1000000 in
theorem S_region {r i : Int} (hI : INV B h) (hB : 1000 ≤ B ∧ B + 108000 ≤ 8000000) (rr : r32 r) (ri : r32 i) (hQ : ∀ y h', (∃ fs, h'[51]? = some (oO 7 fs)) → Nx X kX7_region [vR 51, vI r, vI i] (vI y) (B + 3000) h' → Q (some (vI y)) h') : Cl X kX6_region [vR 0, vI r, vI i] h Q := by
  have hI0 := hI
  obtain ⟨f, g, hr, bh, ah, sl, rw_, kp, ko, Rc, Zc, T, ln, pl, Kq, Fs, S, sz, Kp, dn, km, P, PS, R, Z, I, ik, C, M, J⟩ := hI
  have hK := J.1.1
  have hW := hK.iw hB.1
  have h2 := C.1.2.2.1
  have m2 := m52 M
  refine sa_of h2 (C_cregion C.1.2.1 C.1.1 hW.1 (by omega) rr ri ?_)
  rw [set_same h2, q_region hK.1 r i]
  refine hQ _ h (mo M (by first | rfl | exact (‹FA h _›).2 51 (by omega) (by omega) (by omega) (by omega) (by omega))) fun Q' hQ' => ?_
  refine sa_of m2 (C_rregion M.sa hK.2.1 (by omega) rr ri ?_)
  rw [set_same m2]
  exact hQ' _ (hI0.up (by omega))

set_option maxHeartbeats 1000000 in
theorem S_within {k n i : Int} (hI : INV B h) (hB : 1000 ≤ B ∧ B + 108000 ≤ 8000000) (rk : r32 k) (rn : r32 n) (ri : r32 i) (hQ : ∀ y h', (∃ fs, h'[51]? = some (oO 7 fs)) → Nx X kX7_within [vR 51, vI k, vI n, vI i] (vI y) (B + 3000) h' → Q (some (vI y)) h') : Cl X kX6_within [vR 0, vI k, vI n, vI i] h Q := by
  have hI0 := hI
  obtain ⟨f, g, hr, bh, ah, sl, rw_, kp, ko, Rc, Zc, T, ln, pl, Kq, Fs, S, sz, Kp, dn, km, P, PS, R, Z, I, ik, C, M, J⟩ := hI
  have hK := J.1.1
  have hW := hK.iw hB.1
  have h2 := C.1.2.2.1
  have m2 := m52 M
  refine sa_of h2 (C_cwithin C.1.2.1 C.1.1 hW.1 (by omega) rk rn ri ?_)
  rw [set_same h2, q_within hK.1 hK.2.1 k n i]
  refine hQ _ h (mo M (by first | rfl | exact (‹FA h _›).2 51 (by omega) (by omega) (by omega) (by omega) (by omega))) fun Q' hQ' => ?_
  refine sa_of m2 (C_rwithin M.sa hK.2.1 (by omega) rk rn ri ?_)
  rw [set_same m2]
  exact hQ' _ (hI0.up (by omega))

set_option maxHeartbeats 1000000 in
theorem S_least {a t : Int} (hI : INV B h) (hB : 1000 ≤ B ∧ B + 108000 ≤ 8000000) (ra : r32 a) (rt : r32 t) (hQ : ∀ y h', (∃ fs, h'[51]? = some (oO 7 fs)) → Nx X kX7_least [vR 51, vI a, vI t] (vI y) (B + 3000) h' → Q (some (vI y)) h') : Cl X kX6_least [vR 0, vI a, vI t] h Q := by
  have hI0 := hI
  obtain ⟨f, g, hr, bh, ah, sl, rw_, kp, ko, Rc, Zc, T, ln, pl, Kq, Fs, S, sz, Kp, dn, km, P, PS, R, Z, I, ik, C, M, J⟩ := hI
  have hK := J.1.1
  have hW := hK.iw hB.1
  have h2 := C.1.2.2.1
  have m2 := m52 M
  refine sa_of h2 (C_cleast C.1.2.1 C.1.1 hW.1 (by omega) ra rt ?_)
  rw [set_same h2, q_least hK.1 a t]
  refine hQ _ h (mo M (by first | rfl | exact (‹FA h _›).2 51 (by omega) (by omega) (by omega) (by omega) (by omega))) fun Q' hQ' => ?_
  refine sa_of m2 (C_rleast M.sa hK.2.1 (by omega) ra rt ?_)
  rw [set_same m2]
  exact hQ' _ (hI0.up (by omega))

set_option maxHeartbeats 1000000 in
theorem S_outdated {a : Int} (hI : INV B h) (hB : 1000 ≤ B ∧ B + 108000 ≤ 8000000) (ra : r32 a) (hQ : ∀ y h', (∃ fs, h'[51]? = some (oO 7 fs)) → Nx X kX7_outdated [vR 51, vI a] (vI y) (B + 3000) h' → Q (some (vI y)) h') : Cl X kX6_outdated [vR 0, vI a] h Q := by
  have hI0 := hI
  obtain ⟨f, g, hr, bh, ah, sl, rw_, kp, ko, Rc, Zc, T, ln, pl, Kq, Fs, S, sz, Kp, dn, km, P, PS, R, Z, I, ik, C, M, J⟩ := hI
  have hK := J.1.1
  have hW := hK.iw hB.1
  have h2 := C.1.2.2.1
  have m2 := m52 M
  refine sa_of h2 (C_coutdated C.1.2.1 C.1.1 hW.1 (by omega) ra ?_)
  rw [set_same h2, q_outdated hK.1 hK.2.1 a]
  refine hQ _ h (mo M (by first | rfl | exact (‹FA h _›).2 51 (by omega) (by omega) (by omega) (by omega) (by omega))) fun Q' hQ' => ?_
  refine sa_of m2 (C_routdated M.sa hK.2.1 (by omega) ra ?_)
  rw [set_same m2]
  exact hQ' _ (hI0.up (by omega))

set_option maxHeartbeats 1000000 in
theorem S_lag {a k : Int} (hI : INV B h) (hB : 1000 ≤ B ∧ B + 108000 ≤ 8000000) (ra : r32 a) (rk : r32 k) (hQ : ∀ y h', (∃ fs, h'[51]? = some (oO 7 fs)) → Nx X kX7_lag [vR 51, vI a, vI k] (vI y) (B + 3000) h' → Q (some (vI y)) h') : Cl X kX6_lag [vR 0, vI a, vI k] h Q := by
  have hI0 := hI
  obtain ⟨f, g, hr, bh, ah, sl, rw_, kp, ko, Rc, Zc, T, ln, pl, Kq, Fs, S, sz, Kp, dn, km, P, PS, R, Z, I, ik, C, M, J⟩ := hI
  have hK := J.1.1
  have hW := hK.iw hB.1
  have h2 := C.1.2.2.1
  have m2 := m52 M
  refine sa_of h2 (C_clag C.1.2.1 C.1.1 hW.1 (by omega) ra rk (fun a k h1 h2 => by have S := (hK.1.1.S a k h1 h2).2.1; have en := (hK.2.1.en h1 h2).2.2.1; omega) ?_)
  rw [set_same h2, q_lag hK.1 hK.2.1 a k]
  refine hQ _ h (mo M (by first | rfl | exact (‹FA h _›).2 51 (by omega) (by omega) (by omega) (by omega) (by omega))) fun Q' hQ' => ?_
  refine sa_of m2 (C_rlag M.sa hK.2.1 (by omega) ra rk ?_)
  rw [set_same m2]
  exact hQ' _ (hI0.up (by omega))

set_option maxHeartbeats 1000000 in
theorem S_own {c k : Int} (hI : INV B h) (hB : 1000 ≤ B ∧ B + 108000 ≤ 8000000) (rc : r32 c) (rk : r32 k) (hQ : ∀ y h', (∃ fs, h'[51]? = some (oO 7 fs)) → Nx X kX7_own [vR 51, vI c, vI k] (vI y) (B + 3000) h' → Q (some (vI y)) h') : Cl X kX6_own [vR 0, vI c, vI k] h Q := by
  have hI0 := hI
  obtain ⟨f, g, hr, bh, ah, sl, rw_, kp, ko, Rc, Zc, T, ln, pl, Kq, Fs, S, sz, Kp, dn, km, P, PS, R, Z, I, ik, C, M, J⟩ := hI
  have hK := J.1.1
  have hW := hK.iw hB.1
  have h2 := C.1.2.2.1
  have m2 := m52 M
  refine sa_of h2 (C_cown C.1.2.1 C.1.1 hW.1 (by omega) rc rk ?_)
  rw [set_same h2, q_own hK.1 hK.2.1 c k]
  refine hQ _ h (mo M (by first | rfl | exact (‹FA h _›).2 51 (by omega) (by omega) (by omega) (by omega) (by omega))) fun Q' hQ' => ?_
  refine sa_of m2 (C_rown M.sa hK.2.1 (by omega) rc rk ?_)
  rw [set_same m2]
  exact hQ' _ (hI0.up (by omega))

set_option maxHeartbeats 1000000 in
theorem S_hottest {j : Int} (hI : INV B h) (hB : 1000 ≤ B ∧ B + 108000 ≤ 8000000) (rj : r32 j) (hQ : ∀ y h', (∃ fs, h'[51]? = some (oO 7 fs)) → Nx X kX7_hottest [vR 51, vI j] (vI y) (B + 3000) h' → Q (some (vI y)) h') : Cl X kX6_hottest [vR 0, vI j] h Q := by
  have hI0 := hI
  obtain ⟨f, g, hr, bh, ah, sl, rw_, kp, ko, Rc, Zc, T, ln, pl, Kq, Fs, S, sz, Kp, dn, km, P, PS, R, Z, I, ik, C, M, J⟩ := hI
  have hK := J.1.1
  have hW := hK.iw hB.1
  have h2 := C.1.2.2.1
  have m2 := m52 M
  refine sa_of h2 (C_chottest C.1.2.1 C.1.1 hW.1 (by omega) rj ?_)
  rw [set_same h2, q_hottest hK.1.1]
  refine hQ _ h (mo M (by first | rfl | exact (‹FA h _›).2 51 (by omega) (by omega) (by omega) (by omega) (by omega))) fun Q' hQ' => ?_
  refine sa_of m2 (C_rhottest M.sa hK.2.1 (by omega) rj ?_)
  rw [set_same m2]
  exact hQ' _ (hI0.up (by omega))

set_option maxHeartbeats 1000000 in
theorem S_led {i : Int} (hI : INV B h) (hB : 1000 ≤ B ∧ B + 108000 ≤ 8000000) (ri : r32 i) (hQ : ∀ y h', (∃ fs, h'[51]? = some (oO 7 fs)) → Nx X kX7_led [vR 51, vI i] (vI y) (B + 3000) h' → Q (some (vI y)) h') : Cl X kX6_led [vR 0, vI i] h Q := by
  have hI0 := hI
  obtain ⟨f, g, hr, bh, ah, sl, rw_, kp, ko, Rc, Zc, T, ln, pl, Kq, Fs, S, sz, Kp, dn, km, P, PS, R, Z, I, ik, C, M, J⟩ := hI
  have hK := J.1.1
  have hW := hK.iw hB.1
  have h2 := C.1.2.2.1
  have m2 := m52 M
  refine sa_of h2 (C_cled C.1.2.1 C.1.1 hW.1 (by omega) ri ?_)
  rw [set_same h2, q_led hK.1 i]
  refine hQ _ h (mo M (by first | rfl | exact (‹FA h _›).2 51 (by omega) (by omega) (by omega) (by omega) (by omega))) fun Q' hQ' => ?_
  refine sa_of m2 (C_rled M.sa hK.2.1 (by omega) ri ?_)
  rw [set_same m2]
  exact hQ' _ (hI0.up (by omega))

set_option maxHeartbeats 1000000 in
theorem S_due {k i : Int} (hI : INV B h) (hB : 1000 ≤ B ∧ B + 108000 ≤ 8000000) (rk : r32 k) (ri : r32 i) (hQ : ∀ y h', (∃ fs, h'[51]? = some (oO 7 fs)) → Nx X kX7_due [vR 51, vI k, vI i] (vI y) (B + 3000) h' → Q (some (vI y)) h') : Cl X kX6_due [vR 0, vI k, vI i] h Q := by
  have hI0 := hI
  obtain ⟨f, g, hr, bh, ah, sl, rw_, kp, ko, Rc, Zc, T, ln, pl, Kq, Fs, S, sz, Kp, dn, km, P, PS, R, Z, I, ik, C, M, J⟩ := hI
  have hK := J.1.1
  have hW := hK.iw hB.1
  have h2 := C.1.2.2.1
  refine sa_of h2 (C_cdue C.1.2.1 C.1.1 hW.1 (by omega) rk ri ?_)
  rw [set_same h2]
  have hI1 := hI0.up (C := B + 3000) (by omega)
  refine hQ _ h (mo M (by first | rfl | exact (‹FA h _›).2 51 (by omega) (by omega) (by omega) (by omega) (by omega))) fun Q' hQ' => ?_
  refine C_rdue M hK.2.1 (by omega) rk ri (fun c => ?_) (fun c c2 => ?_) fun c c2 v hv => ?_
  · rw [← (q_due (v := 0) hK.1.1 hK.2.1).1 c]; exact hQ' _ hI1
  · rw [← (q_due (v := 0) hK.1.1 hK.2.1).2.1 c c2]; exact hQ' _ hI1
  · rw [← (q_due hK.1.1 hK.2.1).2.2 c c2 hv]; exact hQ' _ hI1

section CT_
variable {sp kp : AV} {f g Kp : Int → Int} {dn km ln ik at_ hr bh ah : Int} {T P PS R Z I : Int → Int} {fs : List AV} {pl : Int → Nat} {K Fs S : Int → Int → Int} {sz : Int → Int}
set_option maxHeartbeats 1000000 in
theorem lp_plansThere6 {b : Nat × Nat} (h0 : h[0]? = some (oO 6 (cF sp kp))) (hP : PL h pl K Fs S sz) (hR : ∀ j, 0 ≤ j ∧ j < 6 → r32 (sz j)) : ∀ (m : Nat) (k n : Int), k + m = 6 → 0 ≤ k → Q (some (vI (wPt sz m k n))) h → Wp X kX6_plansThere 4 [some (vR 0), some (vI n), some (vI k)] [] h b Q := by
  intro m
  induction m with
  | zero =>
    intro k n q1 q2 hQ
    refine wp_iload_n dX6_plansThere_4 rfl ?_
    refine wp_bipush dX6_plansThere_5 rfl ?_
    refine wp_icmp_ge 31 dX6_plansThere_7 rfl (by first | assumption | exact hR _ (by omega) | exact bI_r _ | (unfold r32; omega)) ⟨by omega, by omega⟩ (fun c7 => ?_) (fun c7 => ?_)
    · refine wp_iload_n dX6_plansThere_31 rfl ?_
      exact wp_iret dX6_plansThere_32 rfl (by unfold wPt at hQ; exact hQ)
    · exfalso; omega
  | succ m ih =>
    intro k n q1 q2 hQ
    unfold wPt at hQ
    refine wp_iload_n dX6_plansThere_4 rfl ?_
    refine wp_bipush dX6_plansThere_5 rfl ?_
    refine wp_icmp_ge 31 dX6_plansThere_7 rfl (by first | assumption | exact hR _ (by omega) | exact bI_r _ | (unfold r32; omega)) ⟨by omega, by omega⟩ (fun c7 => ?_) (fun c7 => ?_)
    · refine wp_iload_n dX6_plansThere_31 rfl ?_
      exact wp_iret dX6_plansThere_32 rfl (False.elim (by omega))
    · refine wp_aload_n dX6_plansThere_10 rfl ?_
      refine wp_getf dX6_plansThere_11 fX6_54 h0 rfl ?_
      refine wp_iload_n dX6_plansThere_14 rfl ?_
      refine wp_aav (j' := (pl k)) dX6_plansThere_15 hP.1 (by decide) (by omega) (plF_at (by omega)) ?_
      refine wp_getf dX6_plansThere_16 fX6_323 (hP.2.1 k (by omega)).2.1 rfl ?_
      refine wp_if_le 25 dX6_plansThere_19 rfl (by first | assumption | exact hR _ (by omega) | exact bI_r _ | (unfold r32; omega)) (fun c19 => ?_) (fun c19 => ?_)
      · refine wp_iinc (L' := [some (vR 0), some (vI n), some (vI (k + 1))]) dX6_plansThere_25 rfl rfl ?_
        refine wp_goto 4 dX6_plansThere_28 rfl ?_
        first | (rw [if_pos (by first | assumption | omega)] at hQ; exact ih (k + 1) _ (by omega) (by omega) hQ) | (rw [if_neg (by first | assumption | omega)] at hQ; exact ih (k + 1) _ (by omega) (by omega) hQ) | exact ih (k + 1) _ (by omega) (by omega) hQ
      · refine wp_iinc (L' := [some (vR 0), some (vI (n + 1)), some (vI k)]) dX6_plansThere_22 rfl rfl ?_
        refine wp_iinc (L' := [some (vR 0), some (vI (n + 1)), some (vI (k + 1))]) dX6_plansThere_25 rfl rfl ?_
        refine wp_goto 4 dX6_plansThere_28 rfl ?_
        first | (rw [if_pos (by first | assumption | omega)] at hQ; exact ih (k + 1) _ (by omega) (by omega) hQ) | (rw [if_neg (by first | assumption | omega)] at hQ; exact ih (k + 1) _ (by omega) (by omega) hQ) | exact ih (k + 1) _ (by omega) (by omega) hQ
theorem C_plansThere6 (h0 : h[0]? = some (oO 6 (cF sp kp))) (hP : PL h pl K Fs S sz) (hR : ∀ j, 0 ≤ j ∧ j < 6 → r32 (sz j)) (hQ : Q (some (vI (wPt sz 6 0 0))) h) : Cl X kX6_plansThere [vR 0] h Q := by
  refine cl_of rfl (Nat.le_of_ble_eq_true rfl) rfl ?_
  refine wp_iconst dX6_plansThere_0 ?_
  refine wp_istore_n (L' := [some (vR 0), some (vI 0), none]) dX6_plansThere_1 (by decide) rfl ?_
  refine wp_iconst dX6_plansThere_2 ?_
  refine wp_istore_n (L' := [some (vR 0), some (vI 0), some (vI 0)]) dX6_plansThere_3 (by decide) rfl ?_
  exact lp_plansThere6 h0 hP hR 6 0 0 (by omega) (by omega) hQ

set_option maxHeartbeats 2000000 in
theorem C_ccount6 {i : Int} (h0 : h[0]? = some (oO 6 (cF sp kp))) (h1 : h[1]? = some (oO 5 fs)) (h1f : fs[0]? = some (vR 2)) (h2 : h[2]? = some (oI 1060 f)) (h5 : h[5]? = some (oO 0 [vR 6, vI hr, vI bh, vI ah])) (h14 : h[14]? = some (oO 4 [vR 15, vI ln, vI at_])) (hP : PL h pl K Fs S sz) (hR2 : ∀ j, 0 ≤ j ∧ j < 6 → r32 (sz j)) (hI : IW B f) (hBB : B ≤ 8000000) (ri : r32 i) (hQ : Q (some (vI (cCount f ln bh sz i))) h) : Cl X kX6_count [vR 0, vI i] h Q := by
  refine cl_of rfl (Nat.le_of_ble_eq_true rfl) rfl ?_
  have hR := hI.r (by omega)
  refine wp_iload_n dX6_count_0 rfl ?_
  rcases Decidable.em (i = 0) with e1_0 | e1_0
  · refine wp_tableIn (off := 51) 52 dX6_count_1 (by first | assumption | exact hR _ | exact bI_r _ | (unfold r32; omega)) (by omega) (by omega) (by rw [e1_0]; rfl) rfl ?_
    refine wp_aload_n dX6_count_52 rfl ?_
    refine wp_getf dX6_count_53 fX6_10 h0 rfl ?_
    refine wp_iv0 dX6_count_56 VX5_writes lX6_169 h1 (rq0 rfl rfl) (Nat.le_of_ble_eq_true rfl) (sa_of h2 (C_wwrites (sa_mk (by decide) h1 h1f h2) rfl ?_))
    dsimp only [pushR]
    rw [set_same h2]
    exact wp_iret dX6_count_59 rfl (by unfold cCount at hQ; (repeat' split at hQ) <;> first | (exfalso; omega) | exact hQ)
  rcases Decidable.em (i = 1) with e1_1 | e1_1
  · refine wp_tableIn (off := 59) 60 dX6_count_1 (by first | assumption | exact hR _ | exact bI_r _ | (unfold r32; omega)) (by omega) (by omega) (by rw [e1_1]; rfl) rfl ?_
    refine wp_aload_n dX6_count_60 rfl ?_
    refine wp_getf dX6_count_61 fX6_10 h0 rfl ?_
    refine wp_iconst dX6_count_64 ?_
    refine wp_iv1 dX6_count_65 VX5_countThere lX6_228 h1 (rq0 rfl rfl) (Nat.le_of_ble_eq_true rfl) (sa_of h2 (C_wcountThere (sa_mk (by decide) h1 h1f h2) hI (by omega) (by omega) ?_))
    dsimp only [pushR]
    rw [set_same h2]
    exact wp_iret dX6_count_68 rfl (by unfold cCount at hQ; (repeat' split at hQ) <;> first | (exfalso; omega) | exact hQ)
  rcases Decidable.em (i = 2) with e1_2 | e1_2
  · refine wp_tableIn (off := 68) 69 dX6_count_1 (by first | assumption | exact hR _ | exact bI_r _ | (unfold r32; omega)) (by omega) (by omega) (by rw [e1_2]; rfl) rfl ?_
    refine wp_aload_n dX6_count_69 rfl ?_
    refine wp_getf dX6_count_70 fX6_10 h0 rfl ?_
    refine wp_bipush dX6_count_73 rfl ?_
    refine wp_iv1 dX6_count_75 VX5_countThere lX6_228 h1 (rq0 rfl rfl) (Nat.le_of_ble_eq_true rfl) (sa_of h2 (C_wcountThere (sa_mk (by decide) h1 h1f h2) hI (by omega) (by omega) ?_))
    dsimp only [pushR]
    rw [set_same h2]
    exact wp_iret dX6_count_78 rfl (by unfold cCount at hQ; (repeat' split at hQ) <;> first | (exfalso; omega) | exact hQ)
  rcases Decidable.em (i = 3) with e1_3 | e1_3
  · refine wp_tableIn (off := 78) 79 dX6_count_1 (by first | assumption | exact hR _ | exact bI_r _ | (unfold r32; omega)) (by omega) (by omega) (by rw [e1_3]; rfl) rfl ?_
    refine wp_aload_n dX6_count_79 rfl ?_
    refine wp_getf dX6_count_80 fX6_10 h0 rfl ?_
    refine wp_iv0 dX6_count_83 VX5_markers lX6_301 h1 (rq0 rfl rfl) (Nat.le_of_ble_eq_true rfl) (sa_of h2 (C_wmarkers (sa_mk (by decide) h1 h1f h2) hI (by omega) ?_))
    dsimp only [pushR]
    rw [set_same h2]
    exact wp_iret dX6_count_86 rfl (by unfold cCount at hQ; (repeat' split at hQ) <;> first | (exfalso; omega) | exact hQ)
  rcases Decidable.em (i = 4) with e1_4 | e1_4
  · refine wp_tableIn (off := 86) 87 dX6_count_1 (by first | assumption | exact hR _ | exact bI_r _ | (unfold r32; omega)) (by omega) (by omega) (by rw [e1_4]; rfl) rfl ?_
    refine wp_aload_n dX6_count_87 rfl ?_
    refine wp_getf dX6_count_88 fX6_10 h0 rfl ?_
    refine wp_iv0 dX6_count_91 VX5_hands lX6_304 h1 (rq0 rfl rfl) (Nat.le_of_ble_eq_true rfl) (sa_of h2 (C_whands (sa_mk (by decide) h1 h1f h2) hI (by omega) ?_))
    dsimp only [pushR]
    rw [set_same h2]
    exact wp_iret dX6_count_94 rfl (by unfold cCount at hQ; (repeat' split at hQ) <;> first | (exfalso; omega) | exact hQ)
  rcases Decidable.em (i = 5) with e1_5 | e1_5
  · refine wp_tableIn (off := 94) 95 dX6_count_1 (by first | assumption | exact hR _ | exact bI_r _ | (unfold r32; omega)) (by omega) (by omega) (by rw [e1_5]; rfl) rfl ?_
    refine wp_aload_n dX6_count_95 rfl ?_
    refine wp_getf dX6_count_96 fX6_48 h0 rfl ?_
    refine wp_getf dX6_count_99 fX6_248 h14 rfl ?_
    exact wp_iret dX6_count_102 rfl (by unfold cCount at hQ; (repeat' split at hQ) <;> first | (exfalso; omega) | exact hQ)
  rcases Decidable.em (i = 6) with e1_6 | e1_6
  · refine wp_tableIn (off := 102) 103 dX6_count_1 (by first | assumption | exact hR _ | exact bI_r _ | (unfold r32; omega)) (by omega) (by omega) (by rw [e1_6]; rfl) rfl ?_
    refine wp_aload_n dX6_count_103 rfl ?_
    refine wp_iv0 dX6_count_104 VX6_plansThere lX6_307 h0 (rq0 rfl rfl) (Nat.le_of_ble_eq_true rfl) (C_plansThere6 h0 hP hR2 ?_)
    dsimp only [pushR]
    exact wp_iret dX6_count_107 rfl (by unfold cCount at hQ; (repeat' split at hQ) <;> first | (exfalso; omega) | exact hQ)
  rcases Decidable.em (i = 7) with e1_7 | e1_7
  · refine wp_tableIn (off := 107) 108 dX6_count_1 (by first | assumption | exact hR _ | exact bI_r _ | (unfold r32; omega)) (by omega) (by omega) (by rw [e1_7]; rfl) rfl ?_
    refine wp_aload_n dX6_count_108 rfl ?_
    refine wp_getf dX6_count_109 fX6_10 h0 rfl ?_
    refine wp_iv0 dX6_count_112 VX5_now lX6_298 h1 (rq0 rfl rfl) (Nat.le_of_ble_eq_true rfl) (sa_of h2 (C_wnow (sa_mk (by decide) h1 h1f h2) rfl ?_))
    dsimp only [pushR]
    rw [set_same h2]
    exact wp_iret dX6_count_115 rfl (by unfold cCount at hQ; (repeat' split at hQ) <;> first | (exfalso; omega) | exact hQ)
  rcases Decidable.em (i = 8) with e1_8 | e1_8
  · refine wp_tableIn (off := 115) 116 dX6_count_1 (by first | assumption | exact hR _ | exact bI_r _ | (unfold r32; omega)) (by omega) (by omega) (by rw [e1_8]; rfl) rfl ?_
    refine wp_aload_n dX6_count_116 rfl ?_
    refine wp_getf dX6_count_117 fX6_22 h0 rfl ?_
    refine wp_getf dX6_count_120 fX6_132 h5 rfl ?_
    exact wp_iret dX6_count_123 rfl (by unfold cCount at hQ; (repeat' split at hQ) <;> first | (exfalso; omega) | exact hQ)
  refine wp_tableOut 124 dX6_count_1 (by first | assumption | exact hR _ | exact bI_r _ | (unfold r32; omega)) (by omega) rfl ?_
  refine wp_iconst dX6_count_124 ?_
  exact wp_iret dX6_count_125 rfl (by unfold cCount at hQ; (repeat' split at hQ) <;> first | (exfalso; omega) | exact hQ)

end CT_
set_option maxHeartbeats 1000000 in
theorem S_count {i : Int} (hI : INV B h) (hB : 1000 ≤ B ∧ B + 108000 ≤ 8000000) (ri : r32 i) (hQ : ∀ y h', (∃ fs, h'[51]? = some (oO 7 fs)) → Nx X kX7_count [vR 51, vI i] (vI y) (B + 3000) h' → Q (some (vI y)) h') : Cl X kX6_count [vR 0, vI i] h Q := by
  have hI0 := hI
  obtain ⟨f, g, hr, bh, ah, sl, rw_, kp, ko, Rc, Zc, T, ln, pl, Kq, Fs, S, sz, Kp, dn, km, P, PS, R, Z, I, ik, C, M, J⟩ := hI
  have hK := J.1.1
  have hW := hK.iw hB.1
  obtain ⟨C1, C2, C3, ⟨a0, C4⟩, C5, C6⟩ := C
  obtain ⟨c0, ⟨q0, q1, fs, q2, q3⟩, c2, c3, c4, c5⟩ := C1
  have hR := J.2.2.2.2.2.2.1
  have hs : ∀ c, 0 ≤ c ∧ c < 6 → sz c = PS c := fun c hc => (hR c hc).1.symm
  have hb : bh = dn := J.1.2.1
  refine C_ccount6 c0 q2 q3 c2 c4.1 C4 C6 (fun j hj => by have := (hR j hj).2.1; unfold r32; omega) hW.1 (by omega) ri ?_
  rw [q_count (ln := ln) (i := i) hK.1.1 hs hb]
  refine hQ _ h (mo M (by first | rfl | exact (‹FA h _›).2 51 (by omega) (by omega) (by omega) (by omega) (by omega))) fun Q' hQ' => ?_
  exact C_rcount M hK.2.1 (by omega) J.2.2.2.2.2.2.2 ri (hQ' _ (hI0.up (by omega)))

end LY_
