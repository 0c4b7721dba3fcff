/-! the law's walk: its script, and what stands between two acts -/
section LW
variable {X : XS} {K : Kd} {pc : Nat} {L : List (Option AV)} {S0 : List AV} {h h' : AH} {b b0 : Nat × Nat} {Q : Option AV → AH → Prop}
variable {f g rwx : Int → Int} {hr bh ah dn km ln ik B C : Int} {sl : Int → Option Nat} {rw_ : Int → Int → Int} {kp sp : AV} {ko Kp T P PS R Z I Zc sz : Int → Int} {Rc Kq Fs S : Int → Int → Int} {pl : Int → Nat}
theorem wp_slen (hd : decode K.2.1 pc = .ok (.arraylength, 1)) (k : Wp X K (pc + 1) L (vI X.1 :: S0) h b Q) : Wp X K pc L (vX 30 :: S0) h b Q :=
  fun p l e R s m args below meth c D E A ad0 n0 Z C hz ad ca H locs cells slots ls hH hS hE hL hO hls hc hs => by
    refine va_tlen (v := Int32.ofInt X.1) C.1 C.2.1 C.2.2.2.2.2.2.2.1.2.2.2.2.1 hS rfl hd ?_
    exact k p l e R s m args below meth c D E A ad0 n0 Z C hz ad ca H locs cells slots ls hH hS hE hL (okS_c (by exact trivial) (okS_t hO)) hls hc hs
theorem wp_sld {i : Int} (hd : decode K.2.1 pc = .ok (.iaload, 1)) (hX : X.1 ≤ 2560) (hi : 0 ≤ i ∧ i < X.1) (k : Wp X K (pc + 1) L (vI (X.2 i) :: S0) h b Q) : Wp X K pc L (vI i :: vX 30 :: S0) h b Q :=
  fun p l e R s m args below meth c D E A ad0 n0 Z C hz ad ca H locs cells slots ls hH hS hE hL hO hls hc hs => by
    obtain ⟨g1, g2⟩ := r32_in hi.1 hi.2 (by omega)
    have ee : (((Int32.ofInt i).toNatClampNeg : Nat) : Int) = i := by omega
    refine va_ti (v := .int (Int32.ofInt (X.2 i))) C.1 C.2.1 C.2.2.2.2.2.2.2.1.2.2.2.2.1 hS g1 (by rw [ee]) hd ?_
    exact k p l e R s m args below meth c D E A ad0 n0 Z C hz ad ca H locs cells slots ls hH hS hE hL (okS_c (by exact trivial) (okS_t (okS_t hO))) hls hc hs
theorem wp_same {x off : Int} (tgt : Nat) (hd : decode K.2.1 pc = .ok (.if_icmp .eq off, 3)) (ht : (pc : Int) + off = (tgt : Int)) (kt : Wp X K tgt L S0 h b Q) : Wp X K pc L (vI x :: vI x :: S0) h b Q :=
  fun p l e R s m args below meth c D E A ad0 n0 Z C hz ad ca H locs cells slots ls hH hS hE hL hO hl hc hs =>
    lv_icmp_eq C.1 C.2.1 hd ht (fun _ => kt p l e R s m args below meth c D E A ad0 n0 Z C hz ad ca H locs cells slots ls hH hS hE hL (okS_t (okS_t hO)) hl hc hs) (fun q => absurd rfl q)
theorem CA.fr (H : CA h f hr bh ah sl rw_ kp sp ko) (k : FRm h h') : CA h' f hr bh ah sl rw_ kp sp ko := by
  obtain ⟨c0, ⟨q0, q1, fs, q2, q3⟩, c2, c3, ⟨H1, H2, H3, H4, H5, H6⟩, c5, c6⟩ := H
  have e : ∀ {i : Nat} {c : AC}, (i < 51 ∨ 70 ≤ i) → h[i]? = some c → h'[i]? = some c := fun hi hc => (k.2 _ hi).trans hc
  refine ⟨e (by omega) c0, ⟨q0, by rw [k.1]; exact q1, fs, e (by omega) q2, q3⟩, e (by omega) c2, c3, ⟨e (by omega) H1, e (by omega) H2, H3, fun i hi s hs => ?_, H5, H6⟩, ?_, by rw [k.1]; exact c6⟩
  · obtain ⟨w1, w2, w3⟩ := H4 i hi s hs
    exact ⟨w1, e (by omega) w2, w3⟩
  · rcases c5 with c5 | ⟨q, w1, w2, w3, w4, w5⟩
    · exact Or.inl c5
    · exact Or.inr ⟨q, w1, w2, e (by omega) w3, w4, w5⟩
theorem MV.fa (H : MV h g Kp dn km T ln P PS R Z I ik) (e : ∀ i, 51 ≤ i → i < 70 → h'[i]? = h[i]?) : MV h' g Kp dn km T ln P PS R Z I ik := by
  unfold MV at *
  rw [e 51 (by decide) (by decide), e 52 (by decide) (by decide), e 53 (by decide) (by decide), e 54 (by decide) (by decide), e 55 (by decide) (by decide), e 56 (by decide) (by decide), e 57 (by decide) (by decide), e 58 (by decide) (by decide), e 59 (by decide) (by decide), e 60 (by decide) (by decide), e 61 (by decide) (by decide), e 62 (by decide) (by decide), e 63 (by decide) (by decide), e 64 (by decide) (by decide), e 65 (by decide) (by decide), e 66 (by decide) (by decide), e 67 (by decide) (by decide), e 68 (by decide) (by decide), e 69 (by decide) (by decide)]
  exact H
/-- what the thinking needs: a World of thoughts, a storm, orders -/
def SIDE (h : AH) : Prop := h[3]? = some (oO 5 [vR 4]) ∧ (∃ tf, SmZ tf ∧ h[4]? = some (oI 1060 tf)) ∧ (∃ a1 a2 a3 a4, h[8]? = some (oO 3 [vR 3, vI a1, vI a2, vI a3, vI a4])) ∧ (∃ n t s l m, h[9]? = some (oO 1 (oF n t s l m))) ∧ (∃ o, h[10]? = some (oI 8 o)) ∧ (∃ o, h[11]? = some (oI 8 o)) ∧ (∃ o, h[12]? = some (oI 6 o)) ∧ ∃ o, h[13]? = some (oL 16 o)
theorem SIDE.fr (H : SIDE h) (e : ∀ i, 3 ≤ i → i < 14 → i ≠ 5 → i ≠ 6 → i ≠ 7 → h'[i]? = h[i]?) : SIDE h' := by
  unfold SIDE at *
  rw [e 3 (by decide) (by decide) (by decide) (by decide) (by decide), e 4 (by decide) (by decide) (by decide) (by decide) (by decide), e 8 (by decide) (by decide) (by decide) (by decide) (by decide), e 9 (by decide) (by decide) (by decide) (by decide) (by decide), e 10 (by decide) (by decide) (by decide) (by decide) (by decide), e 11 (by decide) (by decide) (by decide) (by decide) (by decide), e 12 (by decide) (by decide) (by decide) (by decide) (by decide), e 13 (by decide) (by decide) (by decide) (by decide) (by decide)]
  exact H
/-- the class' state, whole -/
def CS (h : AH) (f : Int → Int) (hr bh ah : Int) (sl : Int → Option Nat) (rw_ : Int → Int → Int) (kp : AV) (ko : Int → Int) (Rc : Int → Int → Int) (Zc T : Int → Int) (ln : Int) (pl : Int → Nat) (Kq Fs S : Int → Int → Int) (sz : Int → Int) : Prop :=
  CA h f hr bh ah sl rw_ kp (vR (pl 6)) ko ∧ SIDE h ∧ SHc h Rc Zc ∧ (∃ a, h[14]? = some (oO 4 [vR 15, vI ln, vI a])) ∧ h[15]? = some (oI 160 T) ∧ PL h pl Kq Fs S sz
/-- how both sides belong together -/
def JN (B : Int) (f g : Int → Int) (hr bh ah : Int) (rw_ : Int → Int → Int) (kp : AV) (ko Kp : Int → Int) (dn km : Int) (T : Int → Int) (ln : Int) (Kq Fs S : Int → Int → Int) (sz P PS : Int → Int) (Rc : Int → Int → Int) (Zc R Z I : Int → Int) (ik : Int) : Prop :=
  RR B f g hr bh ah rw_ Kp dn km ∧ (kp = vN ∧ ik = 0 ∨ kp ≠ vN ∧ ik = 1 ∧ AK B ko I) ∧ ZM I ∧ SW Rc Zc R Z ∧ (∀ j, 0 ≤ T j ∧ T j < 256) ∧ (0 ≤ ln ∧ ln ≤ 160) ∧ PRel Kq Fs S sz P PS ∧ ∀ j, r32 (PS j)
/-- what stands between two acts -/
def INV (B : Int) (h : AH) : Prop := ∃ (f g : Int → Int) (hr bh ah : Int) (sl : Int → Option Nat) (rw_ : Int → Int → Int) (kp : AV) (ko : Int → Int) (Rc : Int → Int → Int) (Zc T : Int → Int) (ln : Int) (pl : Int → Nat) (Kq Fs S : Int → Int → Int) (sz Kp : Int → Int) (dn km : Int) (P PS R Z I : Int → Int) (ik : Int),
  CS h f hr bh ah sl rw_ kp ko Rc Zc T ln pl Kq Fs S sz ∧ MV h g Kp dn km T ln P PS R Z I ik ∧ JN B f g hr bh ah rw_ kp ko Kp dn km T ln Kq Fs S sz P PS Rc Zc R Z I ik
theorem INV.mk (c : CS h f hr bh ah sl rw_ kp ko Rc Zc T ln pl Kq Fs S sz) (m : MV h g Kp dn km T ln P PS R Z I ik) (j : JN B f g hr bh ah rw_ kp ko Kp dn km T ln Kq Fs S sz P PS Rc Zc R Z I ik) : INV B h := ⟨f, g, hr, bh, ah, sl, rw_, kp, ko, Rc, Zc, T, ln, pl, Kq, Fs, S, sz, Kp, dn, km, P, PS, R, Z, I, ik, c, m, j⟩
theorem CS.fr (H : CS h f hr bh ah sl rw_ kp ko Rc Zc T ln pl Kq Fs S sz) (k : FRm h h') : CS h' f hr bh ah sl rw_ kp ko Rc Zc T ln pl Kq Fs S sz := by
  obtain ⟨c1, c2, c3, ⟨a, c4⟩, c5, c6⟩ := H
  exact ⟨c1.fr k, c2.fr (fun i h1 h2 _ _ _ => k.2 i (by omega)), c3.fr (fun i h1 h2 => k.2 i (by omega)), ⟨a, (k.2 14 (by omega)).trans c4⟩, (k.2 15 (by omega)).trans c5, c6.fr (fun i h1 h2 => k.2 i (by omega))⟩
theorem CS.fa {f' : Int → Int} {hr' bh' ah' : Int} {sl' : Int → Option Nat} {rw' : Int → Int → Int} {kp' : AV} {ko' : Int → Int} (H : CS h f hr bh ah sl rw_ kp ko Rc Zc T ln pl Kq Fs S sz) (hA : CA h' f' hr' bh' ah' sl' rw' kp' (vR (pl 6)) ko') (k : FA h h') : CS h' f' hr' bh' ah' sl' rw' kp' ko' Rc Zc T ln pl Kq Fs S sz := by
  obtain ⟨c1, c2, c3, ⟨a, c4⟩, c5, c6⟩ := H
  exact ⟨hA, c2.fr (fun i h1 h2 h3 h4 h5 => k.2 i h1 (by omega) h3 h4 h5), c3.fr (fun i h1 h2 => k.2 i (by omega) (by omega) (by omega) (by omega) (by omega)), ⟨a, (k.2 14 (by omega) (by omega) (by omega) (by omega) (by omega)).trans c4⟩, (k.2 15 (by omega) (by omega) (by omega) (by omega) (by omega)).trans c5, c6.fr (fun i h1 h2 => k.2 i (by omega) (by omega) (by omega) (by omega) (by omega))⟩
/-- the class' rows beside its object have changed: what it thinks with, its tape, plans, shelves -/
theorem CA.sd (H : CA h f hr bh ah sl rw_ kp sp ko) (hl : h'.length = h.length) {sp' : AV} (h0 : h'[0]? = some (oO 6 (cF sp' kp))) (e : ∀ i, i ≠ 0 → (i < 3 ∨ i = 5 ∨ i = 6 ∨ i = 7 ∨ 70 ≤ i) → h'[i]? = h[i]?) : CA h' f hr bh ah sl rw_ kp sp' ko := by
  obtain ⟨c0, ⟨q0, q1, fs, q2, q3⟩, c2, c3, ⟨H1, H2, H3, H4, H5, H6⟩, c5, c6⟩ := H
  have e : ∀ {i : Nat} {c : AC}, i ≠ 0 → (i < 3 ∨ i = 5 ∨ i = 6 ∨ i = 7 ∨ 70 ≤ i) → h[i]? = some c → h'[i]? = some c := fun h1 h2 hc => (e _ h1 h2).trans hc
  refine ⟨h0, ⟨q0, by rw [hl]; exact q1, fs, e (by omega) (by omega) q2, q3⟩, e (by omega) (by omega) c2, c3, ⟨e (by omega) (by omega) H1, e (by omega) (by omega) H2, H3, fun i hi s hs => ?_, H5, H6⟩, ?_, by rw [hl]; exact c6⟩
  · obtain ⟨w1, w2, w3⟩ := H4 i hi s hs
    exact ⟨w1, e (by omega) (by omega) w2, w3⟩
  · rcases c5 with c5 | ⟨q, w1, w2, w3, w4, w5⟩
    · exact Or.inl c5
    · exact Or.inr ⟨q, w1, w2, e (by omega) (by omega) w3, w4, w5⟩
theorem RR.up (H : RR B f g hr bh ah rw_ Kp dn km) (hC : B ≤ C) : RR C f g hr bh ah rw_ Kp dn km := ⟨H.1.up hC, H.2.1, H.2.2.1, H.2.2.2.1, H.2.2.2.2.1, fun d hd => (H.2.2.2.2.2 d hd).up hC⟩
theorem JN.up (H : JN B f g hr bh ah rw_ kp ko Kp dn km T ln Kq Fs S sz P PS Rc Zc R Z I ik) (hC : B ≤ C) : JN C f g hr bh ah rw_ kp ko Kp dn km T ln Kq Fs S sz P PS Rc Zc R Z I ik := by
  obtain ⟨j1, j2, j3⟩ := H
  refine ⟨j1.up hC, ?_, j3⟩
  rcases j2 with j2 | ⟨q1, q2, q3⟩
  · exact Or.inl j2
  · exact Or.inr ⟨q1, q2, q3.up hC⟩
theorem INV.up (H : INV B h) (hC : B ≤ C) : INV C h := by
  obtain ⟨f, g, hr, bh, ah, sl, rw_, kp, ko, Rc, Zc, T, ln, pl, Kq, Fs, S, sz, Kp, dn, km, P, PS, R, Z, I, ik, c, m, j⟩ := H
  exact INV.mk c m (j.up hC)
/-- the other side answers the same, and all stands as before -/
def Nx (X : XS) (K' : Kd) (As : List AV) (v : AV) (B : Int) (h : AH) : Prop := ∀ Q : Option AV → AH → Prop, (∀ h', INV B h' → Q (some v) h') → Cl X K' As h Q
theorem mo (hM : MV h g Kp dn km T ln P PS R Z I ik) (e : h'[51]? = h[51]?) : ∃ fs, h'[51]? = some (oO 7 fs) := by
  obtain ⟨⟨_, _, _, _, _, _, _, _, q⟩, -⟩ := hM
  exact ⟨_, e.trans q⟩
theorem INV.ob (H : INV B h) : (∃ fs, h[0]? = some (oO 6 fs)) := by
  obtain ⟨f, g, hr, bh, ah, sl, rw_, kp, ko, Rc, Zc, T, ln, pl, Kq, Fs, S, sz, Kp, dn, km, P, PS, R, Z, I, ik, c, m, j⟩ := H
  exact ⟨_, c.1.1⟩
theorem ir_ex (hI : IM B g) (hBB : B ≤ 8000000) : ∀ N : Nat, N ≤ 240 → ∃ z, IR g (-1) N z := by
  intro N
  induction N with
  | zero => intro _; exact ⟨-1, by omega, Or.inl ⟨rfl, fun n h1 h2 => by omega⟩⟩
  | succ N ih =>
    intro hN
    obtain ⟨z, hz⟩ := ih (by omega)
    rw [show ((N + 1 : Nat) : Int) = (N : Int) + 1 by omega]
    have g0 := hI.n0 (j := 0) (by omega)
    have gp := hI.b (pR N)
    have hcb : cR g N = g (pR N) * 10000 + (N : Int) / 60 * 1000 + 100 * ((N : Int) % 60 / 10) + (N : Int) % 10 := rfl
    by_cases c : g 0 < g (pR N) ∧ -1 < cR g N ∧ (z < 0 ∨ cR g N < z)
    · exact ⟨_, ir_new hz (by omega) c.1 c.2.1 c.2.2 (by omega) (by omega)⟩
    · exact ⟨z, ir_keep hz (fun h1 h2 => by omega)⟩
theorem rd_ex (hI : IM B g) (hBB : B ≤ 8000000) : ∃ v, RdE g 1 (-1) v := by
  obtain ⟨z, hz⟩ := ir_ex hI hBB 240 (by omega)
  rcases Decidable.em (z < 0) with c | c
  · exact ⟨-1, z, hz, Or.inl ⟨c, rfl⟩⟩
  · exact ⟨z, z, hz, Or.inr ⟨c, rfl⟩⟩
end LW
