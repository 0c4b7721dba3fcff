/-! steps back and forth, images, shelves, tape and plans, both sides -/
section LZ_
variable {X : XS} {h h' : AH} {Q : Option AV → AH → Prop} {B : Int}
variable {f g : Int → Int} {hr bh ah dn km ln ik : Int} {sl : Int → Option Nat} {rw_ : Int → Int → Int} {kp sp : AV} {ko Kp T P PS R Z I Zc sz : Int → Int} {Rc Kq Fs S : Int → Int → Int} {pl : Int → Nat}
theorem CS.sh {Rc' : Int → Int → Int} {Zc' : Int → Int} (H : CS h f hr bh ah sl rw_ kp ko Rc Zc T ln pl Kq Fs S sz) (hl : h'.length = h.length) (e : ∀ i, i < 45 ∨ 51 ≤ i → h'[i]? = h[i]?) (hS : SHc h' Rc' Zc') : CS h' f hr bh ah sl rw_ kp ko Rc' Zc' T ln pl Kq Fs S sz := by
  obtain ⟨c1, c2, c3, ⟨a, c4⟩, c5, c6⟩ := H
  exact ⟨c1.sd hl ((e 0 (by omega)).trans c1.1) (fun i _ _ => e i (by omega)), c2.fr (fun i _ _ _ _ _ => e i (by omega)), hS, ⟨a, (e 14 (by omega)).trans c4⟩, (e 15 (by omega)).trans c5, c6.fr (fun i _ _ => e i (by omega))⟩
theorem CS.tp {T' : Int → Int} {ln' a' : Int} (H : CS h f hr bh ah sl rw_ kp ko Rc Zc T ln pl Kq Fs S sz) (hl : h'.length = h.length) (e : ∀ i, i ≠ 14 → i ≠ 15 → h'[i]? = h[i]?) (h14 : h'[14]? = some (oO 4 [vR 15, vI ln', vI a'])) (h15 : h'[15]? = some (oI 160 T')) : CS h' f hr bh ah sl rw_ kp ko Rc Zc T' ln' pl Kq Fs S sz := by
  obtain ⟨c1, c2, c3, ⟨a, c4⟩, c5, c6⟩ := H
  exact ⟨c1.sd hl ((e 0 (by omega) (by omega)).trans c1.1) (fun i _ _ => e i (by omega) (by omega)), c2.fr (fun i _ _ _ _ _ => e i (by omega) (by omega)), c3.fr (fun i _ _ => e i (by omega) (by omega)), ⟨a', h14⟩, h15, c6.fr (fun i _ _ => e i (by omega) (by omega))⟩
theorem MV.sh {R' Z' : Int → Int} (hM : MV h g Kp dn km T ln P PS R Z I ik) (e : ∀ i, i ≠ 67 → i ≠ 68 → h'[i]? = h[i]?) (h67 : h'[67]? = some (oL 160 R')) (h68 : h'[68]? = some (oI 4 Z')) : MV h' g Kp dn km T ln P PS R' Z' I ik := by
  obtain ⟨q0, q1, q2, q3, q4, q5, q6, q7, q8, q9, q10, q11, q12, q13, q14, q15, q16, q17, q18⟩ := hM
  unfold MV
  rw [e 51 (by decide) (by decide), e 52 (by decide) (by decide), e 53 (by decide) (by decide), e 54 (by decide) (by decide), e 55 (by decide) (by decide), e 56 (by decide) (by decide), e 57 (by decide) (by decide), e 58 (by decide) (by decide), e 59 (by decide) (by decide), e 60 (by decide) (by decide), e 61 (by decide) (by decide), e 62 (by decide) (by decide), e 63 (by decide) (by decide), e 64 (by decide) (by decide), e 65 (by decide) (by decide), e 66 (by decide) (by decide), e 69 (by decide) (by decide)]
  exact ⟨q0, q1, q2, q3, q4, q5, q6, q7, q8, q9, q10, q11, q12, q13, q14, h67, h68, q17, q18⟩
theorem cp_Z (hf : ZM f) (hg : ZM g) : cpI f g 0 0 1014 = f := by
  funext k
  unfold cpI
  split
  · rw [show (0 : Int) + (k - 0) = k by omega]
  · rw [hg k (by omega), hf k (by omega)]
theorem JN.sh {Rc' : Int → Int → Int} {Zc' R' Z' : Int → Int} (H : JN B f g hr bh ah rw_ kp ko Kp dn km T ln Kq Fs S sz P PS Rc Zc R Z I ik) (w : SW Rc' Zc' R' Z') : JN B f g hr bh ah rw_ kp ko Kp dn km T ln Kq Fs S sz P PS Rc' Zc' R' Z' I ik := ⟨H.1, H.2.1, H.2.2.1, w, H.2.2.2.2⟩
theorem gz_ne {i j : Nat} {c : AC} (e : i ≠ j) : (h.set j c)[i]? = h[i]? := List.getElem?_set_ne (Ne.symm e)
theorem set_l {i : Nat} {c : AC} : (h.set i c).length = h.length := List.length_set
set_option maxHeartbeats 1000000 in
theorem S_undo (hI : INV B h) (hB : 1000 ≤ B ∧ B + 108000 ≤ 8000000)  (hQ : ∀ y h', (∃ fs, h'[51]? = some (oO 7 fs)) → Nx X kX7_undo [vR 51] (vI y) (B + 3000) h' → Q (some (vI y)) h') : Cl X kX6_undo [vR 0] h Q := by
  have hI0 := (hI.up (C := B + 3000) (by omega))
  obtain ⟨f, g, hr, bh, ah, sl, rw_, kp, ko, Rc, Zc, T, ln, pl, Kq, Fs, S, sz, Kp, dn, km, P, PS, R, Z, I, ik, C, M, J⟩ := hI
  have hK := J.1.1
  have hW := hK.iw hB.1
  have J3 := J.up (C := B + 3000) (by omega)
  have hd := J.1.2.2.2.1
  have e : bh = dn := J.1.2.1
  refine F_cundo C.1 (fun d => hQ _ h (mo M (by first | rfl | exact gz_ne (by omega) | (rw [gz_ne (by omega), gz_ne (by omega)]) | exact (‹FA h _›).2 51 (by omega) (by omega) (by omega) (by omega) (by omega) | exact (‹FRP h _›).2 51 (by omega) (by omega) (by omega) | exact (‹FRO h _›).2.1 51 (by omega) (by omega) | exact fr 51 (by omega) (by omega))) fun Q' hQ' => ?_) fun d h1 c1 c2 => hQ _ h1 (mo M (by first | rfl | exact gz_ne (by omega) | (rw [gz_ne (by omega), gz_ne (by omega)]) | exact (‹FA h _›).2 51 (by omega) (by omega) (by omega) (by omega) (by omega) | exact (‹FRP h _›).2 51 (by omega) (by omega) (by omega) | exact (‹FRO h _›).2.1 51 (by omega) (by omega) | exact fr 51 (by omega) (by omega))) fun Q' hQ' => ?_
  · exact C_rundo M (by omega) (fun _ => hQ' _ hI0) (fun k => absurd (e ▸ d) k)
  · refine C_rundo (M.fa fun i q1 q2 => c2.2 i (by omega) q2 (by omega) (by omega) (by omega)) (by omega) (fun k => absurd (e.trans k) d) fun k h2 m1 m2 => ?_
    rw [← e] at m1 ⊢
    have r := rr_undo J3.1 d
    rw [← e] at r
    exact hQ' _ (INV.mk ((C.fa c1 c2).fr m2) m1 ⟨r, J3.2⟩)

set_option maxHeartbeats 1000000 in
theorem S_redo (hI : INV B h) (hB : 1000 ≤ B ∧ B + 108000 ≤ 8000000)  (hQ : ∀ y h', (∃ fs, h'[51]? = some (oO 7 fs)) → Nx X kX7_redo [vR 51] (vI y) (B + 3000) h' → Q (some (vI y)) h') : Cl X kX6_redo [vR 0] h Q := by
  have hI0 := (hI.up (C := B + 3000) (by omega))
  obtain ⟨f, g, hr, bh, ah, sl, rw_, kp, ko, Rc, Zc, T, ln, pl, Kq, Fs, S, sz, Kp, dn, km, P, PS, R, Z, I, ik, C, M, J⟩ := hI
  have hK := J.1.1
  have hW := hK.iw hB.1
  have J3 := J.up (C := B + 3000) (by omega)
  have hd := J.1.2.2.2.1
  have e : bh = dn := J.1.2.1
  have e2 : bh + ah = km := J.1.2.2.1
  refine F_credo C.1 (fun d => hQ _ h (mo M (by first | rfl | exact gz_ne (by omega) | (rw [gz_ne (by omega), gz_ne (by omega)]) | exact (‹FA h _›).2 51 (by omega) (by omega) (by omega) (by omega) (by omega) | exact (‹FRP h _›).2 51 (by omega) (by omega) (by omega) | exact (‹FRO h _›).2.1 51 (by omega) (by omega) | exact fr 51 (by omega) (by omega))) fun Q' hQ' => ?_) fun d h1 c1 c2 => hQ _ h1 (mo M (by first | rfl | exact gz_ne (by omega) | (rw [gz_ne (by omega), gz_ne (by omega)]) | exact (‹FA h _›).2 51 (by omega) (by omega) (by omega) (by omega) (by omega) | exact (‹FRP h _›).2 51 (by omega) (by omega) (by omega) | exact (‹FRO h _›).2.1 51 (by omega) (by omega) | exact fr 51 (by omega) (by omega))) fun Q' hQ' => ?_
  · exact C_rredo M (by omega) (fun _ => hQ' _ hI0) (fun k => absurd (by omega) k)
  · refine C_rredo (M.fa fun i q1 q2 => c2.2 i (by omega) q2 (by omega) (by omega) (by omega)) (by omega) (fun k => absurd (by omega) d) fun k h2 m1 m2 => ?_
    have r := rr_redo J3.1 d
    rw [show km - (dn + 1) = ah - 1 by omega]
    exact hQ' _ (INV.mk ((C.fa c1 c2).fr m2) m1 ⟨r, J3.2⟩)

set_option maxHeartbeats 1000000 in
theorem S_image (hI : INV B h) (hB : 1000 ≤ B ∧ B + 108000 ≤ 8000000)  (hQ : ∀ y h', (∃ fs, h'[51]? = some (oO 7 fs)) → Nx X kX7_image [vR 51] (vI y) (B + 3000) h' → Q (some (vI y)) h') : Cl X kX6_image [vR 0] h Q := by
  have hI0 := (hI.up (C := B + 3000) (by omega))
  obtain ⟨f, g, hr, bh, ah, sl, rw_, kp, ko, Rc, Zc, T, ln, pl, Kq, Fs, S, sz, Kp, dn, km, P, PS, R, Z, I, ik, C, M, J⟩ := hI
  have hK := J.1.1
  have hW := hK.iw hB.1
  have J3 := J.up (C := B + 3000) (by omega)
  have hd := J.1.2.2.2.1
  refine C_cimage C.1 fun h1 kp' c1 c2 c3 => hQ _ h1 (mo M (by first | rfl | exact gz_ne (by omega) | (rw [gz_ne (by omega), gz_ne (by omega)]) | exact (‹FA h _›).2 51 (by omega) (by omega) (by omega) (by omega) (by omega) | exact (‹FRP h _›).2 51 (by omega) (by omega) (by omega) | exact (‹FRO h _›).2.1 51 (by omega) (by omega) | exact fr 51 (by omega) (by omega))) fun Q' hQ' => ?_
  refine C_rimage (M.fa fun i q1 q2 => c3.2 i (by omega) q2 (by omega) (by omega) (by omega)) fun h2 m1 m2 => ?_
  rw [cp_Z hK.2.2.2 J.2.2.1] at m1
  rw [← hK.1.1.A.1]
  refine hQ' _ (INV.mk ((C.fa c1 c3).fr m2) m1 ⟨J3.1, Or.inr ⟨?_, rfl, J3.1.1⟩, hK.2.2.2, J3.2.2.2⟩)
  obtain ⟨q, c2⟩ := c2
  rw [c2]
  exact fun e => by cases e

set_option maxHeartbeats 1000000 in
theorem S_back (hI : INV B h) (hB : 1000 ≤ B ∧ B + 108000 ≤ 8000000)  (hQ : ∀ y h', (∃ fs, h'[51]? = some (oO 7 fs)) → Nx X kX7_back [vR 51] (vI y) (B + 3000) h' → Q (some (vI y)) h') : Cl X kX6_back [vR 0] h Q := by
  have hI0 := (hI.up (C := B + 3000) (by omega))
  obtain ⟨f, g, hr, bh, ah, sl, rw_, kp, ko, Rc, Zc, T, ln, pl, Kq, Fs, S, sz, Kp, dn, km, P, PS, R, Z, I, ik, C, M, J⟩ := hI
  have hK := J.1.1
  have hW := hK.iw hB.1
  have J3 := J.up (C := B + 3000) (by omega)
  have hd := J.1.2.2.2.1
  have hik : ik = 0 ∨ ik = 1 := by rcases J.2.1 with ⟨_, e⟩ | ⟨_, e, _⟩ <;> omega
  refine C_cback C.1 (fun d => hQ _ h (mo M (by first | rfl | exact gz_ne (by omega) | (rw [gz_ne (by omega), gz_ne (by omega)]) | exact (‹FA h _›).2 51 (by omega) (by omega) (by omega) (by omega) (by omega) | exact (‹FRP h _›).2 51 (by omega) (by omega) (by omega) | exact (‹FRO h _›).2.1 51 (by omega) (by omega) | exact fr 51 (by omega) (by omega))) fun Q' hQ' => ?_) fun d h1 sl' rw' c1 c2 c3 => hQ _ h1 (mo M (by first | rfl | exact gz_ne (by omega) | (rw [gz_ne (by omega), gz_ne (by omega)]) | exact (‹FA h _›).2 51 (by omega) (by omega) (by omega) (by omega) (by omega) | exact (‹FRP h _›).2 51 (by omega) (by omega) (by omega) | exact (‹FRO h _›).2.1 51 (by omega) (by omega) | exact fr 51 (by omega) (by omega))) fun Q' hQ' => ?_
  · refine C_rback M hik (fun _ => hQ' _ hI0) (fun k => ?_)
    rcases J.2.1 with ⟨_, e⟩ | ⟨e, _⟩
    · exact absurd e k
    · exact absurd d e
  · rcases J3.2.1 with ⟨e, _⟩ | ⟨_, e, e2⟩
    · exact absurd e d
    refine C_rback (M.fa fun i q1 q2 => c3.2 i (by omega) q2 (by omega) (by omega) (by omega)) hik (fun k => by omega) fun k h2 m1 m2 => ?_
    have r := rr_back J3.1 e2
    rw [cp_Z J.2.2.1 hK.2.2.2] at m1 r ⊢
    rw [← e2.1.1.A.1]
    rw [c2] at c1
    exact hQ' _ (INV.mk ((C.fa c1 c3).fr m2) m1 ⟨r, J3.2⟩)

set_option maxHeartbeats 1000000 in
theorem S_restore {d i n a : Int} (hI : INV B h) (hB : 1000 ≤ B ∧ B + 108000 ≤ 8000000) (rd : r32 d) (ri : r32 i) (rn : r32 n) (ra : r32 a) (hQ : ∀ y h', (∃ fs, h'[51]? = some (oO 7 fs)) → Nx X kX7_restore [vR 51, vI d, vI i, vI n, vI a] (vI y) (B + 3000) h' → Q (some (vI y)) h') : Cl X kX6_restore [vR 0, vI d, vI i, vI n, vI a] h Q := by
  have hI0 := (hI.up (C := B + 3000) (by omega))
  obtain ⟨f, g, hr, bh, ah, sl, rw_, kp, ko, Rc, Zc, T, ln, pl, Kq, Fs, S, sz, Kp, dn, km, P, PS, R, Z, I, ik, C, M, J⟩ := hI
  have hK := J.1.1
  have hW := hK.iw hB.1
  have J3 := J.up (C := B + 3000) (by omega)
  have hd := J.1.2.2.2.1
  have w := J.2.2.2.1
  obtain ⟨a1, a2, a3⟩ := A_restore (d := d) (i := i) (n := n) (a := a) hK (by omega) w.1 w.2.1
  refine F_crestore C.1 C.2.2.1 hK hB.1 (by omega) rd ri rn ra (fun j => by have := w.2.2.1 j; unfold r32; omega) (fun j => (w.2.2.1 j).2) w.2.2.2.1 fun h' hr' bh' ah' sl' rw' c1 c2 c3 => ?_
  rw [a1] at c3 ⊢
  refine hQ _ h' (mo M (by first | rfl | exact gz_ne (by omega) | (rw [gz_ne (by omega), gz_ne (by omega)]) | exact (‹FA h _›).2 51 (by omega) (by omega) (by omega) (by omega) (by omega) | exact (‹FRP h _›).2 51 (by omega) (by omega) (by omega) | exact (‹FRO h _›).2.1 51 (by omega) (by omega) | exact fr 51 (by omega) (by omega))) fun Q' hQ' => ?_
  refine F_rrestore (M.fa fun i q1 q2 => c2.2 i (by omega) q2 (by omega) (by omega) (by omega)) hK hB.1 (by omega) (by omega) rd ri rn ra w.2.1 w.2.2.2.2 fun h'' Kp' dn' km' m1 m2 m3 => hQ' _ (INV.mk ((C.fa c1 c2).fr m2) m1 ⟨?_, J3.2⟩)
  exact rr_told J.1 a2 (by omega) c3 m3 a3

set_option maxHeartbeats 1000000 in
theorem S_row {d n : Int} (hI : INV B h) (hB : 1000 ≤ B ∧ B + 108000 ≤ 8000000) (rd : r32 d) (rn : r32 n) (hQ : ∀ y h', (∃ fs, h'[51]? = some (oO 7 fs)) → Nx X kX7_row [vR 51, vI d, vI n] (vI y) (B + 3000) h' → Q (some (vI y)) h') : Cl X kX6_row [vR 0, vI d, vI n] h Q := by
  have hI0 := (hI.up (C := B + 3000) (by omega))
  obtain ⟨f, g, hr, bh, ah, sl, rw_, kp, ko, Rc, Zc, T, ln, pl, Kq, Fs, S, sz, Kp, dn, km, P, PS, R, Z, I, ik, C, M, J⟩ := hI
  have hK := J.1.1
  have hW := hK.iw hB.1
  have J3 := J.up (C := B + 3000) (by omega)
  have hd := J.1.2.2.2.1
  have w := J.2.2.2.1
  refine C_crow C.1.1 C.2.2.1 rd rn (fun c => hQ _ h (mo M (by first | rfl | exact gz_ne (by omega) | (rw [gz_ne (by omega), gz_ne (by omega)]) | exact (‹FA h _›).2 51 (by omega) (by omega) (by omega) (by omega) (by omega) | exact (‹FRP h _›).2 51 (by omega) (by omega) (by omega) | exact (‹FRO h _›).2.1 51 (by omega) (by omega) | exact fr 51 (by omega) (by omega))) fun Q' hQ' => ?_) (fun c c2 => hQ _ h (mo M (by first | rfl | exact gz_ne (by omega) | (rw [gz_ne (by omega), gz_ne (by omega)]) | exact (‹FA h _›).2 51 (by omega) (by omega) (by omega) (by omega) (by omega) | exact (‹FRP h _›).2 51 (by omega) (by omega) (by omega) | exact (‹FRO h _›).2.1 51 (by omega) (by omega) | exact fr 51 (by omega) (by omega))) fun Q' hQ' => ?_) fun c c2 => hQ _ _ (mo M (by first | rfl | exact gz_ne (by omega) | (rw [gz_ne (by omega), gz_ne (by omega)]) | exact (‹FA h _›).2 51 (by omega) (by omega) (by omega) (by omega) (by omega) | exact (‹FRP h _›).2 51 (by omega) (by omega) (by omega) | exact (‹FRO h _›).2.1 51 (by omega) (by omega) | exact fr 51 (by omega) (by omega))) fun Q' hQ' => ?_
  · exact C_rrow M rd rn (fun _ => hQ' _ hI0) (fun k => absurd (by omega) c) (fun k => absurd (by omega) c)
  · exact C_rrow M rd rn (fun k => absurd (by omega) k) (fun _ _ => hQ' _ hI0) (fun k k2 => absurd c2 k2)
  · have e : ∀ i, i < 45 ∨ 51 ≤ i → ((h.set (46 + d.toNat) (oL 40 (flL (Rc d) 0 ((40 : Nat) : Int)))).set 50 (oI 4 (ud Zc d n)))[i]? = h[i]? := fun i hi => by rw [gz_ne (by omega), gz_ne (by omega)]
    have M' := M.fa (fun i q1 q2 => e i (by omega))
    refine C_rrow M' rd rn (fun k => absurd (by omega) k) (fun _ k => absurd k c2) fun k k2 R' hR' => ?_
    have Cs := C.sh (by rw [set_l, set_l]) e ((C.2.2.1.put c.1).size)
    refine hQ' _ (INV.mk (Cs.fr ((FRm.st (i := 68) (by omega)).tr (FRm.st (i := 67) (by omega)))) (M'.sh (R' := R') (Z' := ud Z d n) (fun i q1 q2 => by rw [gz_ne q1, gz_ne q2]) (gs_eq ?_) (gs_ne (by decide) (gs_eq ?_))) (J3.sh (w.row c.1 (by omega) hR')))
    · rw [set_l]; exact gs_lt M'.2.2.2.2.2.2.2.2.2.2.2.2.2.2.2.1
    · exact gs_lt M'.2.2.2.2.2.2.2.2.2.2.2.2.2.2.2.2.1

set_option maxHeartbeats 1000000 in
theorem S_put {d i v : Int} (hI : INV B h) (hB : 1000 ≤ B ∧ B + 108000 ≤ 8000000) (rd : r32 d) (ri : r32 i) (rv : r64 v) (hQ : ∀ y h', (∃ fs, h'[51]? = some (oO 7 fs)) → Nx X kX7_put [vR 51, vI d, vI i, vL v] (vI y) (B + 3000) h' → Q (some (vI y)) h') : Cl X kX6_put [vR 0, vI d, vI i, vL v] h Q := by
  have hI0 := (hI.up (C := B + 3000) (by omega))
  obtain ⟨f, g, hr, bh, ah, sl, rw_, kp, ko, Rc, Zc, T, ln, pl, Kq, Fs, S, sz, Kp, dn, km, P, PS, R, Z, I, ik, C, M, J⟩ := hI
  have hK := J.1.1
  have hW := hK.iw hB.1
  have J3 := J.up (C := B + 3000) (by omega)
  have hd := J.1.2.2.2.1
  have w := J.2.2.2.1
  have hZ : ∀ j, r32 (Zc j) := fun j => by have := w.2.2.1 j; unfold r32; omega
  have hZ2 : ∀ j, Zc j ≤ 40 := fun j => (w.2.2.1 j).2
  have e := w.ref (d := d) (i := i)
  refine C_cput C.1.1 C.2.2.1 rd ri hZ hZ2 (fun c => hQ _ h (mo M (by first | rfl | exact gz_ne (by omega) | (rw [gz_ne (by omega), gz_ne (by omega)]) | exact (‹FA h _›).2 51 (by omega) (by omega) (by omega) (by omega) (by omega) | exact (‹FRP h _›).2 51 (by omega) (by omega) (by omega) | exact (‹FRO h _›).2.1 51 (by omega) (by omega) | exact fr 51 (by omega) (by omega))) fun Q' hQ' => ?_) fun c c1 c2 => hQ _ _ (mo M (by first | rfl | exact gz_ne (by omega) | (rw [gz_ne (by omega), gz_ne (by omega)]) | exact (‹FA h _›).2 51 (by omega) (by omega) (by omega) (by omega) (by omega) | exact (‹FRP h _›).2 51 (by omega) (by omega) (by omega) | exact (‹FRO h _›).2.1 51 (by omega) (by omega) | exact fr 51 (by omega) (by omega))) fun Q' hQ' => ?_
  · refine C_rput M rd ri w.2.1 (fun _ => ?_) (fun k => absurd (e ▸ c) k)
    rw [← e]; exact hQ' _ hI0
  · have ee : ∀ j, j < 45 ∨ 51 ≤ j → (h.set (46 + d.toNat) (oL 40 (ud (Rc d) i v)))[j]? = h[j]? := fun j hj => gz_ne (by omega)
    have M' := M.fa (fun i q1 q2 => ee i (by omega))
    refine C_rput M' rd ri w.2.1 (fun k => absurd (e ▸ k) c) fun k k2 => ?_
    have Cs := C.sh set_l ee (C.2.2.1.put c1)
    refine hQ' _ (INV.mk (Cs.fr (FRm.st (i := 67) (by omega))) (M'.sh (fun i q1 q2 => gz_ne q1) (gs_eq ?_) ?_) (J3.sh (w.put c1 k2.2 rv)))
    · exact gs_lt M'.2.2.2.2.2.2.2.2.2.2.2.2.2.2.2.1
    · exact gs_ne (by decide) M'.2.2.2.2.2.2.2.2.2.2.2.2.2.2.2.2.1
set_option maxHeartbeats 1000000 in
theorem S_element {d i : Int} (hI : INV B h) (hB : 1000 ≤ B ∧ B + 108000 ≤ 8000000) (rd : r32 d) (ri : r32 i) (hQ : ∀ y h', r64 y → (∃ fs, h'[51]? = some (oO 7 fs)) → Nx X kX7_element [vR 51, vI d, vI i] (vL y) (B + 3000) h' → Q (some (vL y)) h') : Cl X kX6_element [vR 0, vI d, vI i] h Q := by
  have hI0 := (hI.up (C := B + 3000) (by omega))
  obtain ⟨f, g, hr, bh, ah, sl, rw_, kp, ko, Rc, Zc, T, ln, pl, Kq, Fs, S, sz, Kp, dn, km, P, PS, R, Z, I, ik, C, M, J⟩ := hI
  have hK := J.1.1
  have hW := hK.iw hB.1
  have J3 := J.up (C := B + 3000) (by omega)
  have hd := J.1.2.2.2.1
  have w := J.2.2.2.1
  have hZ : ∀ j, r32 (Zc j) := fun j => by have := w.2.2.1 j; unfold r32; omega
  have hZ2 : ∀ j, Zc j ≤ 40 := fun j => (w.2.2.1 j).2
  have e := w.ref (d := d) (i := i)
  refine C_celement C.1.1 C.2.2.1 rd ri hZ hZ2 (fun c => hQ _ h (by unfold r64; omega) (mo M (by first | rfl | exact gz_ne (by omega) | (rw [gz_ne (by omega), gz_ne (by omega)]) | exact (‹FA h _›).2 51 (by omega) (by omega) (by omega) (by omega) (by omega) | exact (‹FRP h _›).2 51 (by omega) (by omega) (by omega) | exact (‹FRO h _›).2.1 51 (by omega) (by omega) | exact fr 51 (by omega) (by omega))) fun Q' hQ' => ?_) fun c c1 c2 => hQ _ _ (w.2.2.2.1 d i) (mo M (by first | rfl | exact gz_ne (by omega) | (rw [gz_ne (by omega), gz_ne (by omega)]) | exact (‹FA h _›).2 51 (by omega) (by omega) (by omega) (by omega) (by omega) | exact (‹FRP h _›).2 51 (by omega) (by omega) (by omega) | exact (‹FRO h _›).2.1 51 (by omega) (by omega) | exact fr 51 (by omega) (by omega))) fun Q' hQ' => ?_
  · exact C_relement M rd ri w.2.1 (fun _ => hQ' _ hI0) (fun k => absurd (e ▸ c) k)
  · refine C_relement M rd ri w.2.1 (fun k => absurd (e ▸ k) c) fun k k2 => ?_
    rw [← w.el c1 k2.2]; exact hQ' _ hI0

set_option maxHeartbeats 1000000 in
theorem S_save {d i a : Int} (hI : INV B h) (hB : 1000 ≤ B ∧ B + 108000 ≤ 8000000) (rd : r32 d) (ri : r32 i) (ra : r32 a) (hQ : ∀ y h', (∃ fs, h'[51]? = some (oO 7 fs)) → Nx X kX7_save [vR 51, vI d, vI i, vI a] (vI y) (B + 3000) h' → Q (some (vI y)) h') : Cl X kX6_save [vR 0, vI d, vI i, vI a] h Q := by
  have hI0 := (hI.up (C := B + 3000) (by omega))
  obtain ⟨f, g, hr, bh, ah, sl, rw_, kp, ko, Rc, Zc, T, ln, pl, Kq, Fs, S, sz, Kp, dn, km, P, PS, R, Z, I, ik, C, M, J⟩ := hI
  have hK := J.1.1
  have hW := hK.iw hB.1
  have J3 := J.up (C := B + 3000) (by omega)
  have hd := J.1.2.2.2.1
  have w := J.2.2.2.1
  have hZ : ∀ j, r32 (Zc j) := fun j => by have := w.2.2.1 j; unfold r32; omega
  have hZ2 : ∀ j, Zc j ≤ 40 := fun j => (w.2.2.1 j).2
  obtain ⟨q0, q1, fs, q2, q3⟩ := C.1.2.1
  have ez : ∀ d, 0 ≤ d ∧ d < 4 → Zc d = Z d := w.1.2
  have wz := w.2.1 d
  refine C_csave C.1.1 q2 q3 C.1.2.2.1 C.2.2.1.1 C.2.2.1 rd ri ra hZ hZ2 hW.1 (by omega) (fun c => A_saveN hK.1.1 c) (fun c => hQ _ h (mo M (by first | rfl | exact gz_ne (by omega) | (rw [gz_ne (by omega), gz_ne (by omega)]) | exact (‹FA h _›).2 51 (by omega) (by omega) (by omega) (by omega) (by omega) | exact (‹FRP h _›).2 51 (by omega) (by omega) (by omega) | exact (‹FRO h _›).2.1 51 (by omega) (by omega) | exact fr 51 (by omega) (by omega))) fun Q' hQ' => ?_) (fun c c2 => hQ _ h (mo M (by first | rfl | exact gz_ne (by omega) | (rw [gz_ne (by omega), gz_ne (by omega)]) | exact (‹FA h _›).2 51 (by omega) (by omega) (by omega) (by omega) (by omega) | exact (‹FRP h _›).2 51 (by omega) (by omega) (by omega) | exact (‹FRO h _›).2.1 51 (by omega) (by omega) | exact fr 51 (by omega) (by omega))) fun Q' hQ' => ?_) (fun c c2 c3 => hQ _ h (mo M (by first | rfl | exact gz_ne (by omega) | (rw [gz_ne (by omega), gz_ne (by omega)]) | exact (‹FA h _›).2 51 (by omega) (by omega) (by omega) (by omega) (by omega) | exact (‹FRP h _›).2 51 (by omega) (by omega) (by omega) | exact (‹FRO h _›).2.1 51 (by omega) (by omega) | exact fr 51 (by omega) (by omega))) fun Q' hQ' => ?_) (fun c c2 c3 => hQ _ _ (mo M (by first | rfl | exact gz_ne (by omega) | (rw [gz_ne (by omega), gz_ne (by omega)]) | exact (‹FA h _›).2 51 (by omega) (by omega) (by omega) (by omega) (by omega) | exact (‹FRP h _›).2 51 (by omega) (by omega) (by omega) | exact (‹FRO h _›).2.1 51 (by omega) (by omega) | exact fr 51 (by omega) (by omega))) fun Q' hQ' => ?_)
  · exact C_rsave M rd ri ra w.2.1 hK.2.1 (by omega) (fun _ => hQ' _ hI0) (fun k => absurd (by omega) c) (fun k => absurd (by omega) c) (fun k => absurd (by omega) c)
  · have := ez d c.1
    exact C_rsave M rd ri ra w.2.1 hK.2.1 (by omega) (fun k => absurd (by omega) k) (fun _ _ => hQ' _ hI0) (fun _ k => absurd (by omega) k) (fun _ k => absurd (by omega) k)
  · have e1 := ez d c.1
    have e2 := bcE_eq hK.1.1 c.2
    exact C_rsave M rd ri ra w.2.1 hK.2.1 (by omega) (fun k => absurd (by omega) k) (fun _ k => absurd (by omega) c2) (fun _ _ _ => hQ' _ hI0) (fun _ _ k => absurd (by omega) c3)
  · have e1 := ez d c.1
    have e2 := bcE_eq hK.1.1 c.2
    have ee : ∀ j, j < 45 ∨ 51 ≤ j → (h.set (46 + d.toNat) (oL 40 (svL (f 0) (fun j => f (sA a j + 5)) (fun j => f (sA a j + 1) * 1000000 + j * 1000 + f (sA a j + 0)) 10 0 i (Rc d))))[j]? = h[j]? := fun j hj => gz_ne (by omega)
    have M' := M.fa (fun i q1 q2 => ee i (by omega))
    have sv := w.save hK.1.1 hK.2.1 hW.1 (by omega) c.2 c.1 c3.1 (show i + entN g a ≤ Z d by omega)
    refine C_rsave M' rd ri ra w.2.1 hK.2.1 (by omega) (fun k => absurd (by omega) k) (fun _ k => absurd (by omega) c2) (fun _ _ k => absurd (by omega) k) (fun _ _ k => ?_)
    have Cs := C.sh set_l ee (C.2.2.1.put c.1)
    rw [← e2]
    refine hQ' _ (INV.mk (Cs.fr (FRm.st (i := 67) (by omega))) (M'.sh (fun i q1 q2 => gz_ne q1) (gs_eq ?_) ?_) (J3.sh sv.2))
    · exact gs_lt M'.2.2.2.2.2.2.2.2.2.2.2.2.2.2.2.1
    · exact gs_ne (by decide) M'.2.2.2.2.2.2.2.2.2.2.2.2.2.2.2.2.1

set_option maxHeartbeats 1000000 in
theorem S_feed {c : Int} (hI : INV B h) (hB : 1000 ≤ B ∧ B + 108000 ≤ 8000000) (rc : r32 c) (hQ : ∀ y h', (∃ fs, h'[51]? = some (oO 7 fs)) → Nx X kX7_feed [vR 51, vI c] (vI y) (B + 3000) h' → Q (some (vI y)) h') : Cl X kX6_feed [vR 0, vI c] h Q := by
  have hI0 := (hI.up (C := B + 3000) (by omega))
  obtain ⟨f, g, hr, bh, ah, sl, rw_, kp, ko, Rc, Zc, T, ln, pl, Kq, Fs, S, sz, Kp, dn, km, P, PS, R, Z, I, ik, C, M, J⟩ := hI
  have hK := J.1.1
  have hW := hK.iw hB.1
  have J3 := J.up (C := B + 3000) (by omega)
  have hd := J.1.2.2.2.1
  obtain ⟨j1, j2, j3, j4, j5, j6, j7⟩ := J3
  obtain ⟨a0, h14⟩ := C.2.2.2.1
  have h15 := C.2.2.2.2.1
  refine C_cfeed C.1.1 h14 h15 j6 rc (fun d => hQ _ h (mo M (by first | rfl | exact gz_ne (by omega) | (rw [gz_ne (by omega), gz_ne (by omega)]) | exact (‹FA h _›).2 51 (by omega) (by omega) (by omega) (by omega) (by omega) | exact (‹FRP h _›).2 51 (by omega) (by omega) (by omega) | exact (‹FRO h _›).2.1 51 (by omega) (by omega) | exact fr 51 (by omega) (by omega))) fun Q' hQ' => ?_) (fun d d2 => hQ _ h (mo M (by first | rfl | exact gz_ne (by omega) | (rw [gz_ne (by omega), gz_ne (by omega)]) | exact (‹FA h _›).2 51 (by omega) (by omega) (by omega) (by omega) (by omega) | exact (‹FRP h _›).2 51 (by omega) (by omega) (by omega) | exact (‹FRO h _›).2.1 51 (by omega) (by omega) | exact fr 51 (by omega) (by omega))) fun Q' hQ' => ?_) fun d d2 => hQ _ _ (mo M (by first | rfl | exact gz_ne (by omega) | (rw [gz_ne (by omega), gz_ne (by omega)]) | exact (‹FA h _›).2 51 (by omega) (by omega) (by omega) (by omega) (by omega) | exact (‹FRP h _›).2 51 (by omega) (by omega) (by omega) | exact (‹FRO h _›).2.1 51 (by omega) (by omega) | exact fr 51 (by omega) (by omega))) fun Q' hQ' => ?_
  · exact C_rfeed M j6 rc (fun _ => hQ' _ hI0) (fun k => absurd k d) (fun k => absurd k d)
  · exact C_rfeed M j6 rc (fun k => absurd d k) (fun _ _ => hQ' _ hI0) (fun _ k => absurd d2 k)
  · have ee : ∀ j, j ≠ 14 → j ≠ 15 → ((h.set 15 (oI 160 (ud T ln c))).set 14 (oO 4 [vR 15, vI (ln + 1), vI a0]))[j]? = h[j]? := fun j k1 k2 => by rw [gz_ne k1, gz_ne k2]
    have M' := M.fa (fun i q1 q2 => ee i (by omega) (by omega))
    have Cs := C.tp (by rw [set_l, set_l]) ee (gs_eq (by rw [set_l]; exact gs_lt h14)) (gs_ne (by decide) (gs_eq (gs_lt h15)))
    refine C_rfeed M' j6 rc (fun k => absurd d k) (fun _ k => absurd k d2) fun k k2 h2 m1 m2 => hQ' _ (INV.mk (Cs.fr m2) m1 ⟨j1, j2, j3, j4, fun j => ?_, by omega, j7⟩)
    unfold ud
    split
    · omega
    · exact j5 j

set_option maxHeartbeats 1000000 in
theorem S_plan {c : Int} (hI : INV B h) (hB : 1000 ≤ B ∧ B + 108000 ≤ 8000000) (rc : r32 c) (hQ : ∀ y h', (∃ fs, h'[51]? = some (oO 7 fs)) → Nx X kX7_plan [vR 51, vI c] (vI y) (B + 3000) h' → Q (some (vI y)) h') : Cl X kX6_plan [vR 0, vI c] h Q := by
  have hI0 := (hI.up (C := B + 3000) (by omega))
  obtain ⟨f, g, hr, bh, ah, sl, rw_, kp, ko, Rc, Zc, T, ln, pl, Kq, Fs, S, sz, Kp, dn, km, P, PS, R, Z, I, ik, C, M, J⟩ := hI
  have hK := J.1.1
  have hW := hK.iw hB.1
  have J3 := J.up (C := B + 3000) (by omega)
  have hd := J.1.2.2.2.1
  obtain ⟨j1, j2, j3, j4, j5, j6, j7, j8⟩ := J3
  obtain ⟨a0, h14⟩ := C.2.2.2.1
  have h15 := C.2.2.2.2.1
  refine C_cplan C.1.1 h14 h15 C.2.2.2.2.2 j5 j6 rc (fun d => hQ _ h (mo M (by first | rfl | exact gz_ne (by omega) | (rw [gz_ne (by omega), gz_ne (by omega)]) | exact (‹FA h _›).2 51 (by omega) (by omega) (by omega) (by omega) (by omega) | exact (‹FRP h _›).2 51 (by omega) (by omega) (by omega) | exact (‹FRO h _›).2.1 51 (by omega) (by omega) | exact fr 51 (by omega) (by omega))) fun Q' hQ' => ?_) fun d h1 pl' K' Fs' S' sz' a p1 p2 p3 p4 p5 => hQ _ h1 (mo M (by first | rfl | exact gz_ne (by omega) | (rw [gz_ne (by omega), gz_ne (by omega)]) | exact (‹FA h _›).2 51 (by omega) (by omega) (by omega) (by omega) (by omega) | exact (‹FRP h _›).2 51 (by omega) (by omega) (by omega) | exact (‹FRO h _›).2.1 51 (by omega) (by omega) | exact fr 51 (by omega) (by omega))) fun Q' hQ' => ?_
  · exact C_rplan M (K := Kq 6) (Fs := Fs 6) (S := S 6) j5 j6 rc (fun _ => hQ' _ hI0) (fun k => absurd k d)
  · have M' := M.fa (fun i q1 q2 => p1.2 i (by omega) (by omega) (by omega))
    have Cs : CS h1 f hr bh ah sl rw_ kp ko Rc Zc T 0 pl' K' Fs' S' sz' := ⟨C.1.sd p1.1 p3 (fun i k1 k2 => p1.2 i k1 (by omega) (by omega)), C.2.1.fr (fun i k1 k2 k3 k4 k5 => p1.2 i (by omega) (by omega) (by omega)), C.2.2.1.fr (fun i k1 k2 => p1.2 i (by omega) (by omega) (by omega)), ⟨a, p4⟩, (p1.2 15 (by omega) (by omega) (by omega)).trans h15, p2⟩
    refine C_rplan M' (K := Kq 6) (Fs := Fs 6) (S := S 6) j5 j6 rc (fun k => absurd (by omega) k) fun k h2 P' PS' m1 m2 m3 => ?_
    have pb := plS_b (T := T) j6.2 5 0 0 (Kq 6) (Fs 6) (S 6) (by omega) (by omega) (by omega)
    have pw := plS_wf (T := T) j6.2 5 0 0 (Kq 6) (Fs 6) (S 6) (by omega) (by omega) (by omega) (fun j hj => by omega)
    refine hQ' _ (INV.mk (Cs.fr m2) m1 ⟨j1, j2, j3, j4, j5, by omega, j7.plan d p5 m3 (by omega) pw, fun j => ?_⟩)
    rcases Decidable.em ((plS T ln 5 0 0 (Kq 6) (Fs 6) (S 6)).1 = -1) with q | q
    · rw [(m3.1 q).1]
      unfold ud
      split
      · unfold r32; omega
      · exact j8 j
    · rw [(m3.2 q).2]; exact j8 j

end LZ_
