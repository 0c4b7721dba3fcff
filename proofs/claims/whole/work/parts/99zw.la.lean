/-! what thinks: storm, settled, tried, best, foreseen, orders, witness, both sides -/
section LA_
variable {X : XS} {h h' : AH} {Q : Option AV → AH → Prop} {B : Int} {K : Kd} {pc : Nat} {L : List (Option AV)} {S0 : List AV} {b : Nat × Nat}
variable {f g : Int → Int} {hr bh ah dn km ln ik : Int} {sl : Int → Option Nat} {rw_ : Int → Int → Int} {kp sp : AV} {ko Kp T P PS R Z I Zc sz : Int → Int} {Rc Kq Fs S : Int → Int → Int} {pl : Int → Nat}
/-- the class' World has one field: what else a list tells of it doesn't matter -/
theorem wp_cut {fs : List AV} (hi : h[1]? = some (oO 5 fs)) (hf : fs[0]? = some (vR 2)) (h2 : 2 < h.length) (k : Wp X K pc L S0 (h.set 1 (oO 5 [vR 2])) b Q) : Wp X K pc L S0 h b Q :=
  fun p l e R s m args below meth c D E A ad0 n0 Z C hz ad ca H locs cells slots ls hH hS hE hL hO hls hc hs => by
    have hv : va_at D vwCl (ad 1, cvC E ad (ca 1) (oO 5 [vR 2])) H := by
      obtain ⟨r, r1, r2⟩ := hH.1 1 _ (wsO_get hi)
      have er : r = (RX5, TX5, 1) := Option.some.inj (r1.symm.trans rfl)
      refine ⟨r, r1, r2.to fun k hk => ?_⟩
      rw [er] at hk
      have hk' : k < 1 := hk
      have e0 : k = 0 := by omega
      rw [e0]
      cases fs with
      | nil => cases hf
      | cons a l => cases hf; rfl
    have hok : okC h.length (oO 5 [vR 2]) := fun v hv => by
      rcases List.mem_cons.mp hv with q | q
      · rw [q]; exact h2
      · cases q
    exact k p l e R s m args below meth c D E A ad0 n0 Z C hz ad ca H locs cells slots ls (hH.set (c' := oO 5 [vR 2]) hi rfl hok (hH.1.set hH.2.1 (wsO_get hi) hv (fun _ _ => rfl)) (hH.2.1.set (wsO_get hi))) hS hE.set (by rw [List.length_set]; exact hL) (by rw [List.length_set]; exact hO) hls hc hs
theorem CS.one (H : CS h f hr bh ah sl rw_ kp ko Rc Zc T ln pl Kq Fs S sz) : CS (h.set 1 (oO 5 [vR 2])) f hr bh ah sl rw_ kp ko Rc Zc T ln pl Kq Fs S sz := by
  obtain ⟨⟨c0, ⟨q0, q1, fs, q2, q3⟩, cc2, cc3, ⟨H1, H2, H3, H4, H5, H6⟩, cc5, cc6⟩, c2, c3, ⟨a, c4⟩, c5, c6⟩ := H
  refine ⟨⟨gs_ne (by decide) c0, ⟨q0, by rw [set_l]; exact q1, _, gs_eq (gs_lt q2), rfl⟩, gs_ne (by decide) cc2, cc3, ⟨gs_ne (by decide) H1, gs_ne (by decide) H2, H3, fun i hi s hs => ?_, H5, H6⟩, ?_, by rw [set_l]; exact cc6⟩, c2.fr (fun i _ _ _ _ _ => gz_ne (by omega)), c3.fr (fun i _ _ => gz_ne (by omega)), ⟨a, gs_ne (by decide) c4⟩, gs_ne (by decide) c5, c6.fr (fun i _ _ => gz_ne (by omega))⟩
  · obtain ⟨w1, w2, w3⟩ := H4 i hi s hs
    exact ⟨w1, gs_ne (by omega) w2, w3⟩
  · rcases cc5 with cc5 | ⟨q, w1, w2, w3, w4, w5⟩
    · exact Or.inl cc5
    · exact Or.inr ⟨q, w1, w2, gs_ne (by omega) w3, w4, w5⟩
theorem INV.one (H : INV B h) : INV B (h.set 1 (oO 5 [vR 2])) ∧ (h.set 1 (oO 5 [vR 2]))[1]? = some (oO 5 [vR 2]) ∧ ∃ fs, h[1]? = some (oO 5 fs) ∧ fs[0]? = some (vR 2) ∧ 2 < h.length := by
  obtain ⟨f, g, hr, bh, ah, sl, rw_, kp, ko, Rc, Zc, T, ln, pl, Kq, Fs, S, sz, Kp, dn, km, P, PS, R, Z, I, ik, C, M, J⟩ := H
  obtain ⟨q0, q1, fs, q2, q3⟩ := C.1.2.1
  exact ⟨INV.mk C.one (M.fa fun i _ _ => gz_ne (by omega)) J, gs_eq (gs_lt q2), fs, q2, q3, by have := C.1.2.2.2.2.2.2; omega⟩
theorem CS.sd (H : CS h f hr bh ah sl rw_ kp ko Rc Zc T ln pl Kq Fs S sz) (hl : h'.length = h.length) (e : ∀ i, i ≠ 4 → (i < 8 ∨ 14 ≤ i) → h'[i]? = h[i]?) (hS : SIDE h') : CS h' f hr bh ah sl rw_ kp ko Rc Zc T ln pl Kq Fs S sz := by
  obtain ⟨c1, c2, c3, ⟨a, c4⟩, c5, c6⟩ := H
  exact ⟨c1.sd hl ((e 0 (by omega) (by omega)).trans c1.1) (fun i _ _ => e i (by omega) (by omega)), hS, c3.fr (fun i _ _ => e i (by omega) (by omega)), ⟨a, (e 14 (by omega) (by omega)).trans c4⟩, (e 15 (by omega) (by omega)).trans c5, c6.fr (fun i _ _ => e i (by omega) (by omega))⟩
theorem SIDE.th {tf : Int → Int} (H : SIDE h) (hz : SmZ tf) : SIDE (h.set 4 (oI 1060 tf)) := by
  obtain ⟨s3, ⟨t0, z0, s4⟩, s8, s9, s10, s11, s12, s13⟩ := H
  unfold SIDE
  rw [gz_ne (i := 3) (by decide), gz_ne (i := 8) (by decide), gz_ne (i := 9) (by decide), gz_ne (i := 10) (by decide), gz_ne (i := 11) (by decide), gz_ne (i := 12) (by decide), gz_ne (i := 13) (by decide)]
  exact ⟨s3, ⟨tf, hz, gs_eq (gs_lt s4)⟩, s8, s9, s10, s11, s12, s13⟩
theorem CS.th {tf : Int → Int} (H : CS h f hr bh ah sl rw_ kp ko Rc Zc T ln pl Kq Fs S sz) (hz : SmZ tf) : CS (h.set 4 (oI 1060 tf)) f hr bh ah sl rw_ kp ko Rc Zc T ln pl Kq Fs S sz := H.sd set_l (fun i h1 _ => gz_ne h1) (H.2.1.th hz)
theorem AK.hw (h : AK B f g) (hB : 1000 ≤ B) : HW B f g := by
  have e8 : f 8 = g 8 := h.1.2.1
  have e14 : f 14 = g 20 := h.1.2.2
  have s := h.2.1.set
  have n := h.2.1.n0 (j := 20) (by omega)
  have b := h.2.1.b 20
  exact ⟨h.1.1, h.2.1, by omega, by omega, by omega⟩
theorem trS_n {r : Int → Int} {a : Int} : ∀ (m : Nat) (i n : Int) (g : Int → Int), n ≤ (trS r a m i n g).1 ∧ (trS r a m i n g).1 ≤ n + m := by
  intro m
  induction m with
  | zero => intro i n g; exact ⟨Int.le_refl _, by show n ≤ n + ((0 : Nat) : Int); omega⟩
  | succ m ih =>
    intro i n g
    unfold trS
    have q := ih (i + 1) (n + (rTry (ud g 0 (g 0 + 1)) a (r i)).1) (rTry (ud g 0 (g 0 + 1)) a (r i)).2
    have q2 : (rTry (ud g 0 (g 0 + 1)) a (r i)).1 = 0 ∨ (rTry (ud g 0 (g 0 + 1)) a (r i)).1 = 1 := by
      unfold rTry
      split
      · exact Or.inr rfl
      · exact Or.inl rfl
    split
    · split
      · omega
      · show n ≤ n ∧ n ≤ n + ((m + 1 : Nat) : Int); omega
    · show n ≤ n ∧ n ≤ n + ((m + 1 : Nat) : Int); omega
set_option maxHeartbeats 1000000 in
theorem S_settled {i : Int} (hI : INV B h) (hB : 1000 ≤ B ∧ B + 108000 ≤ 8000000) (ri : r32 i) (h1 : h[1]? = some (oO 5 [vR 2])) (hQ : ∀ y h', (∃ fs, h'[51]? = some (oO 7 fs)) → Nx X kX7_settled [vR 51, vI i] (vI y) (B + 3000) h' → Q (some (vI y)) h') : Cl X kX6_settled [vR 0, vI i] h Q := by
  have hI0 := (hI.up (C := B + 3000) (by omega))
  obtain ⟨f, g, hr, bh, ah, sl, rw_, kp, ko, Rc, Zc, T, ln, pl, Kq, Fs, S, sz, Kp, dn, km, P, PS, R, Z, I, ik, C, M, J⟩ := hI
  have hK := J.1.1
  have hW := hK.iw hB.1
  have J3 := J.up (C := B + 3000) (by omega)
  have w := J.2.2.2.1
  obtain ⟨s3, ⟨tf, hzt, s4⟩, ⟨e1, e2, e3, e4, s8⟩, ⟨n0, t0, s0, l0, m0, s9⟩, ⟨o0, s10⟩, ⟨fs0, s11⟩, ⟨pi0, s12⟩, ⟨fb0, s13⟩⟩ := C.2.1
  have h2 := C.1.2.2.1
  have hA : AW B f g := ⟨hK.1, hK.2.1, hK.2.2.1⟩
  have hO := (A_settled (i := 0) hA hB.1 (by omega)).2
  have hPS := J.2.2.2.2.2.2.2
  refine C_csettled C.1.1 h1 h2 s3 s4 C.1.2.2.2.1 hzt hA hB.1 (by omega) ri (fun c => hQ _ h (mo M (by first | rfl | exact gz_ne (by omega) | (rw [gz_ne (by omega), gz_ne (by omega)]) | exact (‹FA h _›).2 51 (by omega) (by omega) (by omega) (by omega) (by omega) | exact (‹FRP h _›).2 51 (by omega) (by omega) (by omega) | exact (‹FRO h _›).2.1 51 (by omega) (by omega) | exact fr 51 (by omega) (by omega))) fun Q' hQ' => ?_) fun c tf' z => hQ _ _ (mo M (by first | rfl | exact gz_ne (by omega) | (rw [gz_ne (by omega), gz_ne (by omega)]) | exact (‹FA h _›).2 51 (by omega) (by omega) (by omega) (by omega) (by omega) | exact (‹FRP h _›).2 51 (by omega) (by omega) (by omega) | exact (‹FRO h _›).2.1 51 (by omega) (by omega) | exact fr 51 (by omega) (by omega))) fun Q' hQ' => ?_
  · exact C_rsettled M hA hB.1 (by omega) hK.2.2.2 hPS hO ri (fun _ => hQ' _ hI0) (fun k => absurd (by omega) c)
  · refine C_rsettled (M.fa fun i q1 q2 => gz_ne (by omega)) hA hB.1 (by omega) hK.2.2.2 hPS hO ri (fun k => absurd (by omega) k) fun k h2 m1 m2 => ?_
    rw [← (A_settled hA hB.1 k).1]
    exact hQ' _ (INV.mk ((C.th z).fr m2) m1 J3)

set_option maxHeartbeats 1000000 in
theorem S_tried {d a t : Int} (hI : INV B h) (hB : 1000 ≤ B ∧ B + 108000 ≤ 8000000) (rd : r32 d) (ra : r32 a) (rt : r32 t) (h1 : h[1]? = some (oO 5 [vR 2])) (hQ : ∀ y h', (∃ fs, h'[51]? = some (oO 7 fs)) → Nx X kX7_tried [vR 51, vI d, vI a, vI t] (vI y) (B + 3000) h' → Q (some (vI y)) h') : Cl X kX6_tried [vR 0, vI d, vI a, vI t] h Q := by
  have hI0 := (hI.up (C := B + 3000) (by omega))
  obtain ⟨f, g, hr, bh, ah, sl, rw_, kp, ko, Rc, Zc, T, ln, pl, Kq, Fs, S, sz, Kp, dn, km, P, PS, R, Z, I, ik, C, M, J⟩ := hI
  have hK := J.1.1
  have hW := hK.iw hB.1
  have J3 := J.up (C := B + 3000) (by omega)
  have w := J.2.2.2.1
  obtain ⟨s3, ⟨tf, hzt, s4⟩, ⟨e1, e2, e3, e4, s8⟩, ⟨n0, t0, s0, l0, m0, s9⟩, ⟨o0, s10⟩, ⟨fs0, s11⟩, ⟨pi0, s12⟩, ⟨fb0, s13⟩⟩ := C.2.1
  have h2 := C.1.2.2.1
  have hH := hK.hw hB.1
  have hr6 : ∀ d j, 0 ≤ d ∧ d < 4 → r64 (Rc d j) := fun d j _ => w.2.2.2.1 d j
  have ez : ∀ d, 0 ≤ d ∧ d < 4 → Zc d = Z d := w.1.2
  refine C_ctried C.1.1 h1 h2 s3 s4 C.1.2.2.2.1 C.2.2.1 w.2.2.1 hr6 hH hB.1 (by omega) hzt rd ra rt (fun c => hQ _ h (mo M (by first | rfl | exact gz_ne (by omega) | (rw [gz_ne (by omega), gz_ne (by omega)]) | exact (‹FA h _›).2 51 (by omega) (by omega) (by omega) (by omega) (by omega) | exact (‹FRP h _›).2 51 (by omega) (by omega) (by omega) | exact (‹FRO h _›).2.1 51 (by omega) (by omega) | exact fr 51 (by omega) (by omega))) fun Q' hQ' => ?_) (fun c c2 => hQ _ h (mo M (by first | rfl | exact gz_ne (by omega) | (rw [gz_ne (by omega), gz_ne (by omega)]) | exact (‹FA h _›).2 51 (by omega) (by omega) (by omega) (by omega) (by omega) | exact (‹FRP h _›).2 51 (by omega) (by omega) (by omega) | exact (‹FRO h _›).2.1 51 (by omega) (by omega) | exact fr 51 (by omega) (by omega))) fun Q' hQ' => ?_) fun c c2 tf' z => hQ _ _ (mo M (by first | rfl | exact gz_ne (by omega) | (rw [gz_ne (by omega), gz_ne (by omega)]) | exact (‹FA h _›).2 51 (by omega) (by omega) (by omega) (by omega) (by omega) | exact (‹FRP h _›).2 51 (by omega) (by omega) (by omega) | exact (‹FRO h _›).2.1 51 (by omega) (by omega) | exact fr 51 (by omega) (by omega))) fun Q' hQ' => ?_
  · exact C_rtried M w.2.1 w.2.2.2.2 hH hK.2.2.2 hB.1 (by omega) rd ra rt (fun _ => hQ' _ hI0) (fun k => absurd k c) (fun k => absurd k c)
  · have := ez d c.1
    exact C_rtried M w.2.1 w.2.2.2.2 hH hK.2.2.2 hB.1 (by omega) rd ra rt (fun k => absurd c k) (fun _ _ => hQ' _ hI0) (fun _ k => absurd (by omega) k)
  · have := ez d c.1
    refine C_rtried (M.fa fun i q1 q2 => gz_ne (by omega)) w.2.1 w.2.2.2.2 hH hK.2.2.2 hB.1 (by omega) rd ra rt (fun k => absurd c k) (fun _ k => absurd (by omega) c2) fun _ _ h2 m1 m2 => ?_
    rw [← tr_eq hH hB.1 c.2.1 c.2.2 c.1 w.1]
    exact hQ' _ (INV.mk ((C.th z).fr m2) m1 J3)

set_option maxHeartbeats 1000000 in
theorem S_best {d a : Int} (hI : INV B h) (hB : 1000 ≤ B ∧ B + 108000 ≤ 8000000) (rd : r32 d) (ra : r32 a) (h1 : h[1]? = some (oO 5 [vR 2])) (hQ : ∀ y h', (∃ fs, h'[51]? = some (oO 7 fs)) → Nx X kX7_best [vR 51, vI d, vI a] (vI y) (B + 3000) h' → Q (some (vI y)) h') : Cl X kX6_best [vR 0, vI d, vI a] h Q := by
  have hI0 := (hI.up (C := B + 3000) (by omega))
  obtain ⟨f, g, hr, bh, ah, sl, rw_, kp, ko, Rc, Zc, T, ln, pl, Kq, Fs, S, sz, Kp, dn, km, P, PS, R, Z, I, ik, C, M, J⟩ := hI
  have hK := J.1.1
  have hW := hK.iw hB.1
  have J3 := J.up (C := B + 3000) (by omega)
  have w := J.2.2.2.1
  obtain ⟨s3, ⟨tf, hzt, s4⟩, ⟨e1, e2, e3, e4, s8⟩, ⟨n0, t0, s0, l0, m0, s9⟩, ⟨o0, s10⟩, ⟨fs0, s11⟩, ⟨pi0, s12⟩, ⟨fb0, s13⟩⟩ := C.2.1
  have h2 := C.1.2.2.1
  have hH := hK.hw hB.1
  have hr6 : ∀ d j, 0 ≤ d ∧ d < 4 → r64 (Rc d j) := fun d j _ => w.2.2.2.1 d j
  have ez : ∀ d, 0 ≤ d ∧ d < 4 → Zc d = Z d := w.1.2
  have hb : (0 ≤ d ∧ d < 4) ∧ 0 ≤ a ∧ a < 6 → ∀ t, 0 ≤ t ∧ t < 4 → r32 (rTr R Z g d a t) := fun c t _ => by
    have q := trS_n (r := fun j => R (40 * d + j)) (a := a) (Z d).toNat 0 0 (ud g 8 t)
    have := w.2.1 d
    unfold rTr r32
    omega
  refine C_cbest C.1.1 h1 h2 s3 s4 C.1.2.2.2.1 C.2.2.1 w.2.2.1 hr6 hH hB.1 (by omega) hzt rd ra (fun c => hQ _ h (mo M (by first | rfl | exact gz_ne (by omega) | (rw [gz_ne (by omega), gz_ne (by omega)]) | exact (‹FA h _›).2 51 (by omega) (by omega) (by omega) (by omega) (by omega) | exact (‹FRP h _›).2 51 (by omega) (by omega) (by omega) | exact (‹FRO h _›).2.1 51 (by omega) (by omega) | exact fr 51 (by omega) (by omega))) fun Q' hQ' => ?_) (fun c c2 => hQ _ h (mo M (by first | rfl | exact gz_ne (by omega) | (rw [gz_ne (by omega), gz_ne (by omega)]) | exact (‹FA h _›).2 51 (by omega) (by omega) (by omega) (by omega) (by omega) | exact (‹FRP h _›).2 51 (by omega) (by omega) (by omega) | exact (‹FRO h _›).2.1 51 (by omega) (by omega) | exact fr 51 (by omega) (by omega))) fun Q' hQ' => ?_) fun c c2 tf' z => hQ _ _ (mo M (by first | rfl | exact gz_ne (by omega) | (rw [gz_ne (by omega), gz_ne (by omega)]) | exact (‹FA h _›).2 51 (by omega) (by omega) (by omega) (by omega) (by omega) | exact (‹FRP h _›).2 51 (by omega) (by omega) (by omega) | exact (‹FRO h _›).2.1 51 (by omega) (by omega) | exact fr 51 (by omega) (by omega))) fun Q' hQ' => ?_
  · exact C_rbest M w.2.1 w.2.2.2.2 hH hK.2.2.2 hB.1 (by omega) hb rd ra (fun _ => hQ' _ hI0) (fun k => absurd k c) (fun k => absurd k c)
  · have := ez d c.1
    exact C_rbest M w.2.1 w.2.2.2.2 hH hK.2.2.2 hB.1 (by omega) hb rd ra (fun k => absurd c k) (fun _ _ => hQ' _ hI0) (fun _ k => absurd (by omega) k)
  · have := ez d c.1
    refine C_rbest (M.fa fun i q1 q2 => gz_ne (by omega)) w.2.1 w.2.2.2.2 hH hK.2.2.2 hB.1 (by omega) hb rd ra (fun k => absurd c k) (fun _ k => absurd (by omega) c2) fun _ _ h2 m1 m2 => ?_
    rw [← bsL_cong (fun t ht => tr_eq hH hB.1 c.2 ht c.1 w.1) 4 0 0 (by omega) (by omega) (by omega)]
    exact hQ' _ (INV.mk ((C.th z).fr m2) m1 J3)

set_option maxHeartbeats 1000000 in
theorem S_foreseen {d a : Int} (hI : INV B h) (hB : 1000 ≤ B ∧ B + 108000 ≤ 8000000) (rd : r32 d) (ra : r32 a) (h1 : h[1]? = some (oO 5 [vR 2])) (hQ : ∀ y h', (∃ fs, h'[51]? = some (oO 7 fs)) → Nx X kX7_foreseen [vR 51, vI d, vI a] (vI y) (B + 3000) h' → Q (some (vI y)) h') : Cl X kX6_foreseen [vR 0, vI d, vI a] h Q := by
  have hI0 := (hI.up (C := B + 3000) (by omega))
  obtain ⟨f, g, hr, bh, ah, sl, rw_, kp, ko, Rc, Zc, T, ln, pl, Kq, Fs, S, sz, Kp, dn, km, P, PS, R, Z, I, ik, C, M, J⟩ := hI
  have hK := J.1.1
  have hW := hK.iw hB.1
  have J3 := J.up (C := B + 3000) (by omega)
  have w := J.2.2.2.1
  obtain ⟨s3, ⟨tf, hzt, s4⟩, ⟨e1, e2, e3, e4, s8⟩, ⟨n0, t0, s0, l0, m0, s9⟩, ⟨o0, s10⟩, ⟨fs0, s11⟩, ⟨pi0, s12⟩, ⟨fb0, s13⟩⟩ := C.2.1
  have h2 := C.1.2.2.1
  have hr6 : ∀ d j, 0 ≤ d ∧ d < 4 → r64 (Rc d j) := fun d j _ => w.2.2.2.1 d j
  have ez : ∀ d, 0 ≤ d ∧ d < 4 → Zc d = Z d := w.1.2
  have t3 : f 3 = g 3 := hK.1.1.T 0 (by omega)
  have st := hK.2.1.set
  refine C_cforeseen C.1.1 h1 h2 hW.1 (by omega) (by omega) C.2.2.1 w.2.2.1 hr6 rd ra (fun c => hQ _ h (mo M (by first | rfl | exact gz_ne (by omega) | (rw [gz_ne (by omega), gz_ne (by omega)]) | exact (‹FA h _›).2 51 (by omega) (by omega) (by omega) (by omega) (by omega) | exact (‹FRP h _›).2 51 (by omega) (by omega) (by omega) | exact (‹FRO h _›).2.1 51 (by omega) (by omega) | exact fr 51 (by omega) (by omega))) fun Q' hQ' => ?_) (fun c c2 => hQ _ h (mo M (by first | rfl | exact gz_ne (by omega) | (rw [gz_ne (by omega), gz_ne (by omega)]) | exact (‹FA h _›).2 51 (by omega) (by omega) (by omega) (by omega) (by omega) | exact (‹FRP h _›).2 51 (by omega) (by omega) (by omega) | exact (‹FRO h _›).2.1 51 (by omega) (by omega) | exact fr 51 (by omega) (by omega))) fun Q' hQ' => ?_) fun c c2 => hQ _ _ (mo M (by first | rfl | exact gz_ne (by omega) | (rw [gz_ne (by omega), gz_ne (by omega)]) | exact (‹FA h _›).2 51 (by omega) (by omega) (by omega) (by omega) (by omega) | exact (‹FRP h _›).2 51 (by omega) (by omega) (by omega) | exact (‹FRO h _›).2.1 51 (by omega) (by omega) | exact fr 51 (by omega) (by omega))) fun Q' hQ' => ?_
  · exact C_rforeseen M w.2.1 w.2.2.2.2 hK.2.1 (by omega) rd ra (fun _ => hQ' _ hI0) (fun k => absurd k c) (fun k => absurd k c)
  · have := ez d c.1
    exact C_rforeseen M w.2.1 w.2.2.2.2 hK.2.1 (by omega) rd ra (fun k => absurd c k) (fun _ _ => hQ' _ hI0) (fun _ k => absurd (by omega) k)
  · have := ez d c.1
    refine C_rforeseen M w.2.1 w.2.2.2.2 hK.2.1 (by omega) rd ra (fun k => absurd c k) (fun _ k => absurd (by omega) c2) fun _ _ h2 m1 m2 => ?_
    rw [← A_foreseen hK.1.1 c.2 c.1 w.1]
    exact hQ' _ (INV.mk (C.fr m2) m1 J3)

set_option maxHeartbeats 1000000 in
theorem S_storm {x k tk i : Int} (hI : INV B h) (hB : 1000 ≤ B ∧ B + 108000 ≤ 8000000) (rx : r32 x) (rk : r32 k) (rtk : r32 tk) (ri : r32 i) (h1 : h[1]? = some (oO 5 [vR 2])) (hQ : ∀ y h', (∃ fs, h'[51]? = some (oO 7 fs)) → Nx X kX7_storm [vR 51, vI x, vI k, vI tk, vI i] (vI y) (B + 3000) h' → Q (some (vI y)) h') : Cl X kX6_storm [vR 0, vI x, vI k, vI tk, vI i] h Q := by
  have hI0 := (hI.up (C := B + 3000) (by omega))
  obtain ⟨f, g, hr, bh, ah, sl, rw_, kp, ko, Rc, Zc, T, ln, pl, Kq, Fs, S, sz, Kp, dn, km, P, PS, R, Z, I, ik, C, M, J⟩ := hI
  have hK := J.1.1
  have hW := hK.iw hB.1
  have J3 := J.up (C := B + 3000) (by omega)
  have w := J.2.2.2.1
  obtain ⟨s3, ⟨tf, hzt, s4⟩, ⟨e1, e2, e3, e4, s8⟩, ⟨n0, t0, s0, l0, m0, s9⟩, ⟨o0, s10⟩, ⟨fs0, s11⟩, ⟨pi0, s12⟩, ⟨fb0, s13⟩⟩ := C.2.1
  have h2 := C.1.2.2.1
  refine C_cstorm C.1.1 h1 h2 s8 s3 s4 C.1.2.2.2.1 hzt hK hB.1 hB.2 rx rk rtk ri (fun c => hQ _ h (mo M (by first | rfl | exact gz_ne (by omega) | (rw [gz_ne (by omega), gz_ne (by omega)]) | exact (‹FA h _›).2 51 (by omega) (by omega) (by omega) (by omega) (by omega) | exact (‹FRP h _›).2 51 (by omega) (by omega) (by omega) | exact (‹FRO h _›).2.1 51 (by omega) (by omega) | exact fr 51 (by omega) (by omega))) fun Q' hQ' => ?_) fun c hh tf' b1 b2 b3 b4 z hl fr f4 f8 => hQ _ _ (mo M (by first | rfl | exact gz_ne (by omega) | (rw [gz_ne (by omega), gz_ne (by omega)]) | exact (‹FA h _›).2 51 (by omega) (by omega) (by omega) (by omega) (by omega) | exact (‹FRP h _›).2 51 (by omega) (by omega) (by omega) | exact (‹FRO h _›).2.1 51 (by omega) (by omega) | exact fr 51 (by omega) (by omega))) fun Q' hQ' => ?_
  · exact C_rstorm M hK hB.1 hB.2 rx rk rtk ri (fun _ => hQ' _ hI0) (fun k => absurd k c)
  · refine C_rstorm (M.fa fun i q1 q2 => fr i (by omega) (by omega)) hK hB.1 hB.2 rx rk rtk ri (fun k => absurd c k) fun _ h3 m1 m2 => ?_
    rw [← A_storm hK hB.1 hB.2 c.2.1]
    have hS' : SIDE hh := by
      unfold SIDE
      rw [fr 3 (by decide) (by decide), fr 9 (by decide) (by decide), fr 10 (by decide) (by decide), fr 11 (by decide) (by decide), fr 12 (by decide) (by decide), fr 13 (by decide) (by decide)]
      exact ⟨s3, ⟨tf', z, f4⟩, ⟨_, _, _, _, f8⟩, ⟨_, _, _, _, _, s9⟩, ⟨_, s10⟩, ⟨_, s11⟩, ⟨_, s12⟩, ⟨_, s13⟩⟩
    obtain ⟨c1, c2, c3, ⟨a, c4⟩, c5, c6⟩ := C
    refine hQ' _ (INV.mk (CS.fr ⟨c1.sd hl ((fr 0 (by omega) (by omega)).trans c1.1) (fun i _ _ => fr i (by omega) (by omega)), hS', c3.fr (fun i _ _ => fr i (by omega) (by omega)), ⟨a, (fr 14 (by omega) (by omega)).trans c4⟩, (fr 15 (by omega) (by omega)).trans c5, c6.fr (fun i _ _ => fr i (by omega) (by omega))⟩ m2) m1 J3)

theorem SIDE.or (H : SIDE h) (k : FRO h h') : SIDE h' := by
  obtain ⟨s3, s4, ⟨e1, e2, e3, e4, s8⟩, -⟩ := H
  obtain ⟨k1, k2, k9, k10, k11, k12, k13, tf', z, f4⟩ := k
  exact ⟨(k2 3 (by omega) (by omega)).trans s3, ⟨tf', z, f4⟩, ⟨e1, e2, e3, e4, (k2 8 (by omega) (by omega)).trans s8⟩, k9, k10, k11, k12, k13⟩
theorem CS.or (H : CS h f hr bh ah sl rw_ kp ko Rc Zc T ln pl Kq Fs S sz) (k : FRO h h') : CS h' f hr bh ah sl rw_ kp ko Rc Zc T ln pl Kq Fs S sz := H.sd k.1 (fun i h1 h2 => k.2.1 i h1 (by omega)) (H.2.1.or k)

set_option maxHeartbeats 1000000 in
theorem S_orders {x key i : Int} (hI : INV B h) (hB : 1000 ≤ B ∧ B + 108000 ≤ 8000000) (rx : r32 x) (rkey : r32 key) (ri : r32 i) (h1 : h[1]? = some (oO 5 [vR 2])) (hQ : ∀ y h', (∃ fs, h'[51]? = some (oO 7 fs)) → Nx X kX7_orders [vR 51, vI x, vI key, vI i] (vI y) (B + 3000) h' → Q (some (vI y)) h') : Cl X kX6_orders [vR 0, vI x, vI key, vI i] h Q := by
  have hI0 := (hI.up (C := B + 3000) (by omega))
  obtain ⟨f, g, hr, bh, ah, sl, rw_, kp, ko, Rc, Zc, T, ln, pl, Kq, Fs, S, sz, Kp, dn, km, P, PS, R, Z, I, ik, C, M, J⟩ := hI
  have hK := J.1.1
  have hW := hK.iw hB.1
  have J3 := J.up (C := B + 3000) (by omega)
  have w := J.2.2.2.1
  obtain ⟨s3, ⟨tf, hzt, s4⟩, ⟨e1, e2, e3, e4, s8⟩, ⟨n0, t0, s0, l0, m0, s9⟩, ⟨o0, s10⟩, ⟨fs0, s11⟩, ⟨pi0, s12⟩, ⟨fb0, s13⟩⟩ := C.2.1
  have h2 := C.1.2.2.1
  have hR := J.2.2.2.2.2.2.1
  have ep : PLAN x PS ↔ PLAN x sz := PLAN_eq hR
  have ea : aoL (clF x) sz 6 0 0 = aoL (clF x) PS 6 0 0 := aoL_cong (fun c hc => (hR c hc).1.symm) 6 0 0 (by omega) (by omega)
  refine C_corders C.1.1 h1 h2 s3 s4 s9 s10 s11 s12 s13 C.1.2.2.2.1 hzt C.2.2.2.2.2 hR hK hB.1 (by omega) rx rkey ri (fun c => hQ _ h (mo M (by first | rfl | exact gz_ne (by omega) | (rw [gz_ne (by omega), gz_ne (by omega)]) | exact (‹FA h _›).2 51 (by omega) (by omega) (by omega) (by omega) (by omega) | exact (‹FRP h _›).2 51 (by omega) (by omega) (by omega) | exact (‹FRO h _›).2.1 51 (by omega) (by omega) | exact fr 51 (by omega) (by omega))) fun Q' hQ' => ?_) (fun c c2 => hQ _ h (mo M (by first | rfl | exact gz_ne (by omega) | (rw [gz_ne (by omega), gz_ne (by omega)]) | exact (‹FA h _›).2 51 (by omega) (by omega) (by omega) (by omega) (by omega) | exact (‹FRP h _›).2 51 (by omega) (by omega) (by omega) | exact (‹FRO h _›).2.1 51 (by omega) (by omega) | exact fr 51 (by omega) (by omega))) fun Q' hQ' => ?_) fun c c2 hh fo => hQ _ _ (mo M (by first | rfl | exact gz_ne (by omega) | (rw [gz_ne (by omega), gz_ne (by omega)]) | exact (‹FA h _›).2 51 (by omega) (by omega) (by omega) (by omega) (by omega) | exact (‹FRP h _›).2 51 (by omega) (by omega) (by omega) | exact (‹FRO h _›).2.1 51 (by omega) (by omega) | exact fr 51 (by omega) (by omega))) fun Q' hQ' => ?_
  · exact C_rorders M hR hK hB.1 (by omega) rx rkey ri (fun _ => hQ' _ hI0) (fun k => absurd ⟨ep.mp k.1, k.2⟩ c) (fun k => absurd ⟨ep.mp k.1, k.2⟩ c)
  · exact C_rorders M hR hK hB.1 (by omega) rx rkey ri (fun k => absurd ⟨ep.mpr c.1, c.2⟩ k) (fun _ _ => hQ' _ hI0) (fun _ k => absurd c2 (by omega))
  · refine C_rorders (M.fa fun i q1 q2 => fo.2.1 i (by omega) (by omega)) hR hK hB.1 (by omega) rx rkey ri (fun k => absurd ⟨ep.mpr c.1, c.2⟩ k) (fun _ k => absurd k (by omega)) fun _ _ h3 R_ hE m1 m2 => ?_
    rw [← (A_orders (fs0 := fs0) (o1 := o0) hR hK hB.1 (by omega) c.2.1 c.1 c2 hE).1 i]
    exact hQ' _ (INV.mk ((C.or fo).fr m2) m1 J3)

set_option maxHeartbeats 1000000 in
theorem S_witness {x k : Int} (hI : INV B h) (hB : 1000 ≤ B ∧ B + 108000 ≤ 8000000) (rx : r32 x) (rk : r32 k) (h1 : h[1]? = some (oO 5 [vR 2])) (hQ : ∀ y h', (∃ fs, h'[51]? = some (oO 7 fs)) → Nx X kX7_witness [vR 51, vI x, vI k] (vI y) (B + 3000) h' → Q (some (vI y)) h') : Cl X kX6_witness [vR 0, vI x, vI k] h Q := by
  have hI0 := (hI.up (C := B + 3000) (by omega))
  obtain ⟨f, g, hr, bh, ah, sl, rw_, kp, ko, Rc, Zc, T, ln, pl, Kq, Fs, S, sz, Kp, dn, km, P, PS, R, Z, I, ik, C, M, J⟩ := hI
  have hK := J.1.1
  have hW := hK.iw hB.1
  have J3 := J.up (C := B + 3000) (by omega)
  have w := J.2.2.2.1
  obtain ⟨s3, ⟨tf, hzt, s4⟩, ⟨e1, e2, e3, e4, s8⟩, ⟨n0, t0, s0, l0, m0, s9⟩, ⟨o0, s10⟩, ⟨fs0, s11⟩, ⟨pi0, s12⟩, ⟨fb0, s13⟩⟩ := C.2.1
  have h2 := C.1.2.2.1
  have hR := J.2.2.2.2.2.2.1
  have ep : PLAN x PS ↔ PLAN x sz := PLAN_eq hR
  have ea : aoL (clF x) sz 6 0 0 = aoL (clF x) PS 6 0 0 := aoL_cong (fun c hc => (hR c hc).1.symm) 6 0 0 (by omega) (by omega)
  refine C_cwitness C.1.1 h1 h2 s3 s4 s9 s10 s11 s12 s13 C.1.2.2.2.1 hzt C.2.2.2.2.2 hR hK hB.1 (by omega) rx rk (fun c => hQ _ h (mo M (by first | rfl | exact gz_ne (by omega) | (rw [gz_ne (by omega), gz_ne (by omega)]) | exact (‹FA h _›).2 51 (by omega) (by omega) (by omega) (by omega) (by omega) | exact (‹FRP h _›).2 51 (by omega) (by omega) (by omega) | exact (‹FRO h _›).2.1 51 (by omega) (by omega) | exact fr 51 (by omega) (by omega))) fun Q' hQ' => ?_) (fun c c2 => hQ _ h (mo M (by first | rfl | exact gz_ne (by omega) | (rw [gz_ne (by omega), gz_ne (by omega)]) | exact (‹FA h _›).2 51 (by omega) (by omega) (by omega) (by omega) (by omega) | exact (‹FRP h _›).2 51 (by omega) (by omega) (by omega) | exact (‹FRO h _›).2.1 51 (by omega) (by omega) | exact fr 51 (by omega) (by omega))) fun Q' hQ' => ?_) fun c c2 hh fo => hQ _ _ (mo M (by first | rfl | exact gz_ne (by omega) | (rw [gz_ne (by omega), gz_ne (by omega)]) | exact (‹FA h _›).2 51 (by omega) (by omega) (by omega) (by omega) (by omega) | exact (‹FRP h _›).2 51 (by omega) (by omega) (by omega) | exact (‹FRO h _›).2.1 51 (by omega) (by omega) | exact fr 51 (by omega) (by omega))) fun Q' hQ' => ?_
  · exact C_rwitness M hR hK hB.1 (by omega) rx rk (fun _ => hQ' _ hI0) (fun q => absurd ⟨ep.mp q.1, q.2⟩ c) (fun q => absurd ⟨ep.mp q.1, q.2⟩ c)
  · exact C_rwitness M hR hK hB.1 (by omega) rx rk (fun q => absurd ⟨ep.mpr c.1, c.2⟩ q) (fun _ _ => hQ' _ hI0) (fun _ q => absurd c2 (by omega))
  · refine C_rwitness (M.fa fun i q1 q2 => fo.2.1 i (by omega) (by omega)) hR hK hB.1 (by omega) rx rk (fun q => absurd ⟨ep.mpr c.1, c.2⟩ q) (fun _ q => absurd q (by omega)) fun _ _ h3 R_ hE m1 m2 => ?_
    rw [← (A_orders (fs0 := fs0) (o1 := o0) (key := 0) hR hK hB.1 (by omega) (by omega) c.1 c2 hE).2 k c.2]
    exact hQ' _ (INV.mk ((C.or fo).fr m2) m1 J3)

end LA_
