/-! bringing values back from a shelf, both faces, and alike -/
def cRsL (r : Int → Int) (a : Int) : Nat → Int → (Int → Int) → Int × (Int → Int)
  | 0, k, f => (k, f)
  | m + 1, k, f => if cOk f (r k) then cRsL r a m (k + 1) (cIn f a (r k)) else (k, f)
def rRsL (r : Int → Int) (a : Int) : Nat → Int → (Int → Int) → Int × (Int → Int)
  | 0, k, g => (k, g)
  | m + 1, k, g => if rOk g (r k) then rRsL r a m (k + 1) (rIn g a (r k)) else (k, g)
section RT
variable {X : XS} {h : AH} {Q : Option AV → AH → Prop} {sp kp : AV} {Rc : Int → Int → Int} {Zc : Int → Int} {f g Kp : Int → Int} {dn km ln ik B : Int} {T P PS R Z I : Int → Int} {fs : List AV} {hr bh ah : Int} {sl : Int → Option Nat} {rw_ : Int → Int → Int} {ko : Int → Int}
theorem A_res1 {a x : Int} (h : AK B f g) (hB : 1000 ≤ B) (ha : 0 ≤ a ∧ a < 6) : (cOk f x ↔ rOk g x) ∧ (rOk g x → AK (B + 300) (cIn f a x) (rIn g a x)) := by
  obtain ⟨⟨h0, h8, h14⟩, hI, hP, hZ⟩ := h
  have A0 := h0.A
  unfold SmA at A0
  have n2 := hI.n60 (j := 2) (by omega)
  refine ⟨?_, fun hk => ?_⟩
  · unfold cOk rOk wWw valO
    rw [A0.2.1]
    rcases Decidable.em (0 ≤ x ∧ x / 1000000 ≤ g 2) with c | c
    · rcases Decidable.em (x / 1000000 = 0) with e | e
      · rw [if_pos e]
        split <;> omega
      · have q0 := h0.J (x / 1000000) 0 (by omega) (by omega)
        have q1 := h0.J (x / 1000000) 1 (by omega) (by omega)
        rw [Int.add_zero (36 + 3 * (x / 1000000 - 1))] at q0
        rw [if_neg e, if_neg e, q0, q1]
        (repeat' split) <;> omega
    · omega
  · have hkk : 0 ≤ x / 1000 % 1000 ∧ x / 1000 % 1000 < 10 := by unfold rOk at hk; omega
    have e5 : f (3 + 5) = g 8 := by rw [show (3 : Int) + 5 = 8 by decide]; exact h8
    have hins := sm_ins (a := a) (k := x / 1000 % 1000) (v := x % 1000) (n := x / 1000000) (t := f (3 + 5)) h0 hI hB ha hkk e5 (by omega) (by unfold rOk at hk; omega)
    unfold cIn rIn
    refine ⟨⟨sm_led4 hins.1 hins.2.1, ?_, ?_⟩, (hins.2.1.up (show B + 200 ≤ B + 200 + 100 by omega)).wr (im_u1 hins.2.1 (by omega)) |>.up (by omega), pm_of hP (fun j hj => ?_), zm_ud (zm_fills hZ ha hkk) (by omega)⟩
    · rw [hins.2.2.1, ud_ne (j := 20) (by omega), hins.2.2.2.2.1]; exact h8
    · rw [hins.2.2.2.1, ud_eq, hins.2.2.2.2.2.1, h14]
    · rw [ud_ne (by omega), hins.2.2.2.2.2.2 j (by omega) (by omega)]
theorem A_resL {a : Int} {r r' : Int → Int} (ha : 0 ≤ a ∧ a < 6) : ∀ (m : Nat) (k B : Int) (f g : Int → Int), AK B f g → 1000 ≤ B → (∀ j, k ≤ j → j < k + m → r j = r' j) → (cRsL r a m k f).1 = (rRsL r' a m k g).1 ∧ AK (B + 300 * m) (cRsL r a m k f).2 (rRsL r' a m k g).2 ∧ k ≤ (rRsL r' a m k g).1 ∧ (rRsL r' a m k g).1 ≤ k + m := by
  intro m
  induction m with
  | zero => intro k B f g h hB hr; exact ⟨rfl, h.up (by omega), Int.le_refl k, by show k ≤ _; omega⟩
  | succ m ih =>
    intro k B f g h hB hr
    have q := A_res1 (x := r k) h hB ha
    have e := hr k (by omega) (by omega)
    unfold cRsL rRsL
    rcases Decidable.em (rOk g (r k)) with c | c
    · rw [← e, if_pos (q.1.mpr c), if_pos c]
      have w := ih (k + 1) (B + 300) _ _ (q.2 c) (by omega) (fun j q1 q2 => hr j (by omega) (by omega))
      exact ⟨w.1, w.2.1.up (by omega), by omega, by omega⟩
    · rw [← e, if_neg (fun d => c (q.1.mp d)), if_neg c]
      exact ⟨rfl, h.up (by omega), Int.le_refl k, by show k ≤ _; omega⟩
theorem AK.n60 (h : AK B f g) : f 1 ≤ 60 ∧ 0 ≤ f (3 + 5) ∧ f (3 + 5) < 4 := by
  obtain ⟨⟨h0, h8, h14⟩, hI, hP, hZ⟩ := h
  have A0 := h0.A
  unfold SmA at A0
  have n2 := hI.n60 (j := 2) (by omega)
  have st := hI.set
  have e : f (3 + 5) = g 8 := h8
  omega
set_option maxHeartbeats 1000000 in
theorem lp_crst {d i n a : Int} {b : Nat × Nat} (hd : 0 ≤ d ∧ d < 4) (ha : 0 ≤ a ∧ a < 6) (h1f : fs[0]? = some (vR 2)) (hi : 0 ≤ i ∧ i + n ≤ 40) (hr6 : ∀ j, r64 (Rc d j)) (rn : r32 n) : ∀ (m : Nat) (k B : Int) (f g : Int → Int), k + m = n → 0 ≤ k → AK B f g → 1000 ≤ B → B + 300 * m ≤ 8000000 → h[0]? = some (oO 6 (cF sp kp)) → h[1]? = some (oO 5 fs) → h[2]? = some (oI 1060 f) → h[45]? = some (oR 2 4 shF) → h[46 + d.toNat]? = some (oL 40 (Rc d)) → Wp X kX6_restore 96 [some (vR 0), some (vI d), some (vI i), some (vI n), some (vI a), some (vI (cRsL (fun j => Rc d (i + j)) a m k f).1)] [] (h.set 2 (oI 1060 (cRsL (fun j => Rc d (i + j)) a m k f).2)) b Q → Wp X kX6_restore 64 [some (vR 0), some (vI d), some (vI i), some (vI n), some (vI a), some (vI k)] [] h b Q := by
  intro m
  induction m generalizing h with
  | zero =>
    intro k B f g q1 q2 hA q3 q4 h0 h1 h2 h45 hd6 hQ
    refine wp_iload dX6_restore_64 rfl ?_
    refine wp_iload_n dX6_restore_66 rfl ?_
    refine wp_icmp_ge 96 dX6_restore_67 rfl (by first | assumption | exact hR _ | exact bI_r _ | (unfold r32; omega)) (by first | assumption | exact hR _ | exact bI_r _ | (unfold r32; omega)) (fun c67 => ?_) (fun c67 => ?_)
    · unfold cRsL at hQ
      rw [set_same h2] at hQ
      exact hQ
    · exfalso; omega
  | succ m ih =>
    intro k B f g q1 q2 hA q3 q4 h0 h1 h2 h45 hd6 hQ
    have hI : IW B f := hA.1.iw hA.2.1 q3
    have hR := hI.r (by omega)
    have hn := hA.n60
    have q := A_res1 (x := Rc d (i + k)) hA q3 ha
    unfold cRsL at hQ
    refine wp_iload dX6_restore_64 rfl ?_
    refine wp_iload_n dX6_restore_66 rfl ?_
    refine wp_icmp_ge 96 dX6_restore_67 rfl (by first | assumption | exact hR _ | exact bI_r _ | (unfold r32; omega)) (by first | assumption | exact hR _ | exact bI_r _ | (unfold r32; omega)) (fun c67 => ?_) (fun c67 => ?_)
    · first | (exfalso; omega) | (rw [set_same h2] at hQ; exact hQ)
    · refine wp_aload_n dX6_restore_70 rfl ?_
      refine wp_aload_n dX6_restore_71 rfl ?_
      refine wp_getf dX6_restore_72 fX6_65 h0 rfl ?_
      refine wp_iload_n dX6_restore_75 rfl ?_
      refine wp_aav (j' := (46 + d.toNat)) dX6_restore_76 h45 (by decide) (by omega) (shF_at (by omega)) ?_
      refine wp_iload_n dX6_restore_77 rfl ?_
      refine wp_iload dX6_restore_78 rfl ?_
      refine wp_iadd dX6_restore_80 ?_
      refine wp_lav (v := (Rc d) (i + k)) dX6_restore_81 hd6 (by decide) (by omega) rfl ?_
      refine wp_iload dX6_restore_82 rfl ?_
      refine wp_iv2 dX6_restore_84 VX6_restoreOne lX6_291 h0 (rq0 rfl rfl) (Nat.le_of_ble_eq_true rfl) (C_restoreOne h0 h1 h1f h2 hI (by omega) ha (hr6 _) hn.1 hn.2 (fun cc => ?_) (fun cc => ?_))
      · dsimp only [pushR]
        rw [if_neg cc] at hQ
        refine wp_if_eq 96 dX6_restore_87 rfl ⟨by omega, by omega⟩ (fun c87 => ?_) (fun c87 => absurd c87 (by omega))
        first | (exfalso; omega) | (rw [set_same h2] at hQ; exact hQ)
      · dsimp only [pushR]
        rw [if_pos cc] at hQ
        refine wp_if_eq 96 dX6_restore_87 rfl ⟨by omega, by omega⟩ (fun c87 => absurd c87 (by omega)) (fun c87 => ?_)
        refine wp_iinc (L' := [some (vR 0), some (vI d), some (vI i), some (vI n), some (vI a), some (vI (k + 1))]) dX6_restore_90 rfl rfl ?_
        refine wp_goto 64 dX6_restore_93 rfl ?_
        exact ih (k + 1) (B + 300) _ _ (by omega) (by omega) (q.2 (q.1.mp cc)) (by omega) (by omega) (gs_ne (by decide) h0) (gs_ne (by decide) h1) (gs_eq (gs_lt h2)) (gs_ne (by decide) h45) (gs_ne (by omega) hd6) (by rw [List.set_set]; exact hQ)
def cRst (f : Int → Int) (Rc : Int → Int → Int) (Zc : Int → Int) (d i n a : Int) : Int × (Int → Int) := if (0 ≤ d ∧ d < 4) ∧ (0 ≤ n ∧ n ≤ 10) ∧ (0 ≤ a ∧ a < 6) then if Zc d < 0 then ((-11), f) else if 0 ≤ i ∧ i ≤ Zc d - n then cRsL (fun j => Rc d (i + j)) a n.toNat 0 f else ((-13), f) else ((-1), f)
set_option maxHeartbeats 2000000 in
theorem F_crestore {d i n a : Int} (hC : CA h f hr bh ah sl rw_ kp sp ko) (hS : SHc h Rc Zc) (hA : AK B f g) (hB : 1000 ≤ B) (hBB : B + 3000 ≤ 8000000) (rd : r32 d) (ri : r32 i) (rn : r32 n) (ra : r32 a) (hZ : ∀ j, r32 (Zc j)) (hZ2 : ∀ j, Zc j ≤ 40) (hr6 : ∀ d j, r64 (Rc d j)) (hQ : ∀ h' hr' bh' ah' sl' rw', CA h' (cRst f Rc Zc d i n a).2 hr' bh' ah' sl' rw' kp sp ko → FA h h' → NT (cRst f Rc Zc d i n a).1 (cRst f Rc Zc d i n a).2 hr bh ah rw_ hr' bh' ah' rw' → Q (some (vI (cRst f Rc Zc d i n a).1)) h') : Cl X kX6_restore [vR 0, vI d, vI i, vI n, vI a] h Q := by
  refine cl_of rfl (Nat.le_of_ble_eq_true rfl) rfl ?_
  have h0 := hC.1
  obtain ⟨-, -, fs, h1, h1f⟩ := hC.2.1
  have h2 := hC.2.2.1
  have h45 := hS.1
  have h50 := hS.2.2
  have hR := hZ
  have hz := hZ2 d
  have hz1 := hZ d
  have hnn : ∀ v : Int, v = -1 ∨ v = -11 ∨ v = -13 → NT v f hr bh ah rw_ hr bh ah rw_ := fun v hv => Or.inr ⟨by unfold dOn; omega, rfl, rfl, rfl, rfl⟩
  refine wp_iload_n dX6_restore_0 rfl ?_
  refine wp_iconst dX6_restore_1 ?_
  refine wp_is2 dX6_restore_2 SX6_below lX6_81 (rq0 rfl rfl) (Nat.le_of_ble_eq_true rfl) (C_below (by first | assumption | exact hR _ | exact bI_r _ | (unfold r32; omega)) (by first | assumption | exact hR _ | exact bI_r _ | (unfold r32; omega)) ?_)
  dsimp only [pushR]
  refine wp_beq 28 dX6_restore_5 rfl (fun c5 => ?_) (fun c5 => ?_)
  · refine wp_iconst dX6_restore_28 ?_
    exact wp_iret dX6_restore_29 rfl (by have e : cRst f Rc Zc d i n a = ((-1), f) := (by unfold cRst; (repeat' split) <;> first | rfl | (exfalso; omega)); rw [e] at hQ; exact hQ _ _ _ _ _ _ hC FA.rf (hnn _ (by omega)))
  · refine wp_iload_n dX6_restore_8 rfl ?_
    refine wp_if_lt 28 dX6_restore_9 rfl (by first | assumption | exact hR _ | exact bI_r _ | (unfold r32; omega)) (fun c9 => ?_) (fun c9 => ?_)
    · refine wp_iconst dX6_restore_28 ?_
      exact wp_iret dX6_restore_29 rfl (by have e : cRst f Rc Zc d i n a = ((-1), f) := (by unfold cRst; (repeat' split) <;> first | rfl | (exfalso; omega)); rw [e] at hQ; exact hQ _ _ _ _ _ _ hC FA.rf (hnn _ (by omega)))
    · refine wp_iload_n dX6_restore_12 rfl ?_
      refine wp_bipush dX6_restore_13 rfl ?_
      refine wp_icmp_gt 28 dX6_restore_15 rfl (by first | assumption | exact hR _ | exact bI_r _ | (unfold r32; omega)) ⟨by omega, by omega⟩ (fun c15 => ?_) (fun c15 => ?_)
      · refine wp_iconst dX6_restore_28 ?_
        exact wp_iret dX6_restore_29 rfl (by have e : cRst f Rc Zc d i n a = ((-1), f) := (by unfold cRst; (repeat' split) <;> first | rfl | (exfalso; omega)); rw [e] at hQ; exact hQ _ _ _ _ _ _ hC FA.rf (hnn _ (by omega)))
      · refine wp_iload dX6_restore_18 rfl ?_
        refine wp_bipush dX6_restore_20 rfl ?_
        refine wp_is2 dX6_restore_22 SX6_below lX6_81 (rq0 rfl rfl) (Nat.le_of_ble_eq_true rfl) (C_below (by first | assumption | exact hR _ | exact bI_r _ | (unfold r32; omega)) (by first | assumption | exact hR _ | exact bI_r _ | (unfold r32; omega)) ?_)
        dsimp only [pushR]
        refine wp_bne 30 dX6_restore_25 rfl (fun c25 => ?_) (fun c25 => ?_)
        · refine wp_aload_n dX6_restore_30 rfl ?_
          refine wp_getf dX6_restore_31 fX6_68 h0 rfl ?_
          refine wp_iload_n dX6_restore_34 rfl ?_
          refine wp_iav (v := Zc d) dX6_restore_35 h50 (by decide) (by omega) rfl ?_
          refine wp_if_ge 42 dX6_restore_36 rfl (by first | assumption | exact hR _ | exact bI_r _ | (unfold r32; omega)) (fun c36 => ?_) (fun c36 => ?_)
          · refine wp_iload_n dX6_restore_42 rfl ?_
            refine wp_if_lt 58 dX6_restore_43 rfl (by first | assumption | exact hR _ | exact bI_r _ | (unfold r32; omega)) (fun c43 => ?_) (fun c43 => ?_)
            · refine wp_bipush dX6_restore_58 rfl ?_
              exact wp_iret dX6_restore_60 rfl (by have e : cRst f Rc Zc d i n a = ((-13), f) := (by unfold cRst; (repeat' split) <;> first | rfl | (exfalso; omega)); rw [e] at hQ; exact hQ _ _ _ _ _ _ hC FA.rf (hnn _ (by omega)))
            · refine wp_iload_n dX6_restore_46 rfl ?_
              refine wp_aload_n dX6_restore_47 rfl ?_
              refine wp_getf dX6_restore_48 fX6_68 h0 rfl ?_
              refine wp_iload_n dX6_restore_51 rfl ?_
              refine wp_iav (v := Zc d) dX6_restore_52 h50 (by decide) (by omega) rfl ?_
              refine wp_iload_n dX6_restore_53 rfl ?_
              refine wp_isub dX6_restore_54 ?_
              refine wp_icmp_le 61 dX6_restore_55 rfl (by first | assumption | exact hR _ | exact bI_r _ | (unfold r32; omega)) (by first | assumption | exact hR _ | exact bI_r _ | (unfold r32; omega)) (fun c55 => ?_) (fun c55 => ?_)
              · refine wp_iconst dX6_restore_61 ?_
                refine wp_istore (L' := [some (vR 0), some (vI d), some (vI i), some (vI n), some (vI a), some (vI 0)]) dX6_restore_62 (by decide) rfl ?_
                have e : cRst f Rc Zc d i n a = cRsL (fun j => Rc d (i + j)) a n.toNat 0 f := by unfold cRst; rw [if_pos (by omega), if_neg (by omega), if_pos (by omega)]
                rw [e] at hQ
                have w := A_resL (r := fun j => Rc d (i + j)) (r' := fun j => Rc d (i + j)) (show 0 ≤ a ∧ a < 6 by omega) n.toNat 0 B f g hA hB (fun _ _ _ => rfl)
                refine lp_crst (by omega) (by omega) h1f (by omega) (hr6 d) rn n.toNat 0 B f g (by omega) (by omega) hA hB (by omega) h0 h1 h2 h45 (hS.2.1 d (by omega)) ?_
                refine wp_aload_n dX6_restore_96 rfl ?_
                refine wp_iload dX6_restore_97 rfl ?_
                refine wp_iv1 dX6_restore_99 VX6_noted lX6_89 (gs_ne (by decide) hC.1) (rq1 (0, 0) rfl (by decide) (by decide)) (Nat.le_of_ble_eq_true rfl) (N_noted (CA.s2 hC w.2.1.1.1.Z) (by unfold r32; omega) (fun h' hr' bh' ah' sl' rw' k1 k2 k3 => ?_))
                dsimp only [pushR]
                exact wp_iret dX6_restore_102 rfl (hQ h' hr' bh' ah' sl' rw' k1 (FA.s2.tr k2) k3)
              · refine wp_bipush dX6_restore_58 rfl ?_
                exact wp_iret dX6_restore_60 rfl (by have e : cRst f Rc Zc d i n a = ((-13), f) := (by unfold cRst; (repeat' split) <;> first | rfl | (exfalso; omega)); rw [e] at hQ; exact hQ _ _ _ _ _ _ hC FA.rf (hnn _ (by omega)))
          · refine wp_bipush dX6_restore_39 rfl ?_
            exact wp_iret dX6_restore_41 rfl (by have e : cRst f Rc Zc d i n a = ((-11), f) := (by unfold cRst; (repeat' split) <;> first | rfl | (exfalso; omega)); rw [e] at hQ; exact hQ _ _ _ _ _ _ hC FA.rf (hnn _ (by omega)))
        · refine wp_iconst dX6_restore_28 ?_
          exact wp_iret dX6_restore_29 rfl (by have e : cRst f Rc Zc d i n a = ((-1), f) := (by unfold cRst; (repeat' split) <;> first | rfl | (exfalso; omega)); rw [e] at hQ; exact hQ _ _ _ _ _ _ hC FA.rf (hnn _ (by omega)))
set_option maxHeartbeats 1000000 in
theorem lp_rrst {d i n a at_ ft ac mn om fw mo un : Int} {b : Nat × Nat} (hd : 0 ≤ d ∧ d < 4) (ha : 0 ≤ a ∧ a < 6) (hi : 0 ≤ i ∧ i + n ≤ 40) (hr6 : ∀ j, r64 (R j)) (rn : r32 n) : ∀ (m : Nat) (k B : Int) (f g : Int → Int), k + m = n → 0 ≤ k → AK B f g → 1000 ≤ B → B + 300 * m ≤ 8000000 → h[51]? = some (oO 7 (mF dn km ln at_ ft ac mn om fw mo un ik)) → h[52]? = some (oI 1014 g) → h[67]? = some (oL 160 R) → Wp X kX7_restore 99 [some (vR 51), some (vI d), some (vI i), some (vI n), some (vI a), some (vI (rRsL (fun j => R (40 * d + i + j)) a m k g).1)] [] (h.set 52 (oI 1014 (rRsL (fun j => R (40 * d + i + j)) a m k g).2)) b Q → Wp X kX7_restore 64 [some (vR 51), some (vI d), some (vI i), some (vI n), some (vI a), some (vI k)] [] h b Q := by
  intro m
  induction m generalizing h with
  | zero =>
    intro k B f g q1 q2 hA q3 q4 m51 m52 m67 hQ
    refine wp_iload dX7_restore_64 rfl ?_
    refine wp_iload_n dX7_restore_66 rfl ?_
    refine wp_icmp_ge 99 dX7_restore_67 rfl (by first | assumption | exact hR _ | exact bI_r _ | (unfold r32; omega)) (by first | assumption | exact hR _ | exact bI_r _ | (unfold r32; omega)) (fun c67 => ?_) (fun c67 => ?_)
    · unfold rRsL at hQ
      rw [set_same m52] at hQ
      exact hQ
    · exfalso; omega
  | succ m ih =>
    intro k B f g q1 q2 hA q3 q4 m51 m52 m67 hQ
    have hI : IM B g := hA.2.1
    have hR := hI.r (by omega)
    have q := A_res1 (x := R (40 * d + i + k)) hA q3 ha
    unfold rRsL at hQ
    refine wp_iload dX7_restore_64 rfl ?_
    refine wp_iload_n dX7_restore_66 rfl ?_
    refine wp_icmp_ge 99 dX7_restore_67 rfl (by first | assumption | exact hR _ | exact bI_r _ | (unfold r32; omega)) (by first | assumption | exact hR _ | exact bI_r _ | (unfold r32; omega)) (fun c67 => ?_) (fun c67 => ?_)
    · first | (exfalso; omega) | (rw [set_same m52] at hQ; exact hQ)
    · refine wp_aload_n dX7_restore_70 rfl ?_
      refine wp_aload_n dX7_restore_71 rfl ?_
      refine wp_getf dX7_restore_72 fX7_73 m51 rfl ?_
      refine wp_bipush dX7_restore_75 rfl ?_
      refine wp_iload_n dX7_restore_77 rfl ?_
      refine wp_imul dX7_restore_78 ?_
      refine wp_iload_n dX7_restore_79 rfl ?_
      refine wp_iadd dX7_restore_80 ?_
      refine wp_iload dX7_restore_81 rfl ?_
      refine wp_iadd dX7_restore_83 ?_
      refine wp_lav (v := R (40 * d + i + k)) dX7_restore_84 m67 (by decide) (by omega) rfl ?_
      refine wp_iload dX7_restore_85 rfl ?_
      refine wp_iv2 dX7_restore_87 VX7_restores lX7_344 m51 (rq0 rfl rfl) (Nat.le_of_ble_eq_true rfl) (C_restores m51 m52 hI (by omega) ha (hr6 _) (fun cc => ?_) (fun cc => ?_))
      · dsimp only [pushR]
        rw [if_neg cc] at hQ
        refine wp_if_eq 99 dX7_restore_90 rfl ⟨by omega, by omega⟩ (fun c90 => ?_) (fun c90 => absurd c90 (by omega))
        first | (exfalso; omega) | (rw [set_same m52] at hQ; exact hQ)
      · dsimp only [pushR]
        rw [if_pos cc] at hQ
        refine wp_if_eq 99 dX7_restore_90 rfl ⟨by omega, by omega⟩ (fun c90 => absurd c90 (by omega)) (fun c90 => ?_)
        refine wp_iinc (L' := [some (vR 51), some (vI d), some (vI i), some (vI n), some (vI a), some (vI (k + 1))]) dX7_restore_93 rfl rfl ?_
        refine wp_goto 64 dX7_restore_96 rfl ?_
        exact ih (k + 1) (B + 300) _ _ (by omega) (by omega) (q.2 cc) (by omega) (by omega) (gs_ne (by decide) m51) (gs_eq (gs_lt m52)) (gs_ne (by decide) m67) (by rw [List.set_set]; exact hQ)
def rRst (g R Z : Int → Int) (d i n a : Int) : Int × (Int → Int) := if (0 ≤ d ∧ d < 4) ∧ (0 ≤ n ∧ n ≤ 10) ∧ (0 ≤ a ∧ a < 6) then if Z d = -1 then ((-11), g) else if 0 ≤ i ∧ i ≤ Z d - n then rRsL (fun j => R (40 * d + i + j)) a n.toNat 0 g else ((-13), g) else ((-1), g)
set_option maxHeartbeats 2000000 in
theorem F_rrestore {d i n a : Int} (hM : MV h g Kp dn km T ln P PS R Z I ik) (hA : AK B f g) (hB : 1000 ≤ B) (hBB : B + 3000 ≤ 8000000) (hd : 0 ≤ dn ∧ dn ≤ 30) (rd : r32 d) (ri : r32 i) (rn : r32 n) (ra : r32 a) (hZ : ∀ j, -1 ≤ Z j ∧ Z j ≤ 40) (hr6 : ∀ j, r64 (R j)) (hQ : ∀ h' Kp' dn' km', MV h' (rRst g R Z d i n a).2 Kp' dn' km' T ln P PS R Z I ik → FRm h h' → TO (rRst g R Z d i n a).1 (rRst g R Z d i n a).2 Kp dn km Kp' dn' km' → Q (some (vI (rRst g R Z d i n a).1)) h') : Cl X kX7_restore [vR 51, vI d, vI i, vI n, vI a] h Q := by
  refine cl_of rfl (Nat.le_of_ble_eq_true rfl) rfl ?_
  obtain ⟨⟨at_, ft, ac, mn, om, fw, mo, un, m51⟩, m52, m53, m54, -, m56, m57, -, -, -, -, -, -, -, -, m67, m68, m69, -⟩ := id hM
  have hR : ∀ j, r32 (Z j) := fun j => by have := hZ j; unfold r32; omega
  have hz := hZ d
  have hnn : ∀ v : Int, v = -1 ∨ v = -11 ∨ v = -13 → TO v g Kp dn km Kp dn km := fun v hv => Or.inl ⟨by unfold dNo; omega, rfl, rfl, rfl⟩
  refine wp_iload_n dX7_restore_0 rfl ?_
  refine wp_is1 dX7_restore_1 SX7_isShelf lX7_323 (rq0 rfl rfl) (Nat.le_of_ble_eq_true rfl) (C_isShelf (by first | assumption | exact hR _ | exact bI_r _ | (unfold r32; omega)) ?_)
  dsimp only [pushR]
  refine wp_beq 27 dX7_restore_4 rfl (fun c4 => ?_) (fun c4 => ?_)
  · refine wp_iconst dX7_restore_27 ?_
    exact wp_iret dX7_restore_28 rfl (by have e : rRst g R Z d i n a = ((-1), g) := (by unfold rRst; (repeat' split) <;> first | rfl | (exfalso; omega)); rw [e] at hQ; exact hQ _ _ _ _ hM FRm.rf (hnn _ (by omega)))
  · refine wp_iload_n dX7_restore_7 rfl ?_
    refine wp_i2l dX7_restore_8 (by first | assumption | exact hR _ | exact bI_r _ | (unfold r32; omega)) ?_
    refine wp_lconst (z := 0) dX7_restore_9 rfl ?_
    refine wp_ldc2 dX7_restore_10 cX7_214 ?_
    refine wp_is3 dX7_restore_13 SX7_in lX7_94 (rq0 rfl rfl) (Nat.le_of_ble_eq_true rfl) (C_in (by first | assumption | exact r64_of (hR _) | (unfold r64 r32 at *; omega)) (by first | assumption | exact r64_of (hR _) | (unfold r64 r32 at *; omega)) (by first | assumption | exact r64_of (hR _) | (unfold r64 r32 at *; omega)) ?_)
    dsimp only [pushR]
    refine wp_beq 27 dX7_restore_16 rfl (fun c16 => ?_) (fun c16 => ?_)
    · refine wp_iconst dX7_restore_27 ?_
      exact wp_iret dX7_restore_28 rfl (by have e : rRst g R Z d i n a = ((-1), g) := (by unfold rRst; (repeat' split) <;> first | rfl | (exfalso; omega)); rw [e] at hQ; exact hQ _ _ _ _ hM FRm.rf (hnn _ (by omega)))
    · refine wp_iload dX7_restore_19 rfl ?_
      refine wp_is1 dX7_restore_21 SX7_isGroup lX7_187 (rq0 rfl rfl) (Nat.le_of_ble_eq_true rfl) (C_isGroup (by first | assumption | exact hR _ | exact bI_r _ | (unfold r32; omega)) ?_)
      dsimp only [pushR]
      refine wp_bne 29 dX7_restore_24 rfl (fun c24 => ?_) (fun c24 => ?_)
      · refine wp_aload_n dX7_restore_29 rfl ?_
        refine wp_getf dX7_restore_30 fX7_76 m51 rfl ?_
        refine wp_iload_n dX7_restore_33 rfl ?_
        refine wp_iav (v := Z d) dX7_restore_34 m68 (by decide) (by omega) rfl ?_
        refine wp_iconst dX7_restore_35 ?_
        refine wp_icmp_ne 42 dX7_restore_36 rfl (by first | assumption | exact hR _ | exact bI_r _ | (unfold r32; omega)) ⟨by omega, by omega⟩ (fun c36 => ?_) (fun c36 => ?_)
        · refine wp_iload_n dX7_restore_42 rfl ?_
          refine wp_if_lt 58 dX7_restore_43 rfl (by first | assumption | exact hR _ | exact bI_r _ | (unfold r32; omega)) (fun c43 => ?_) (fun c43 => ?_)
          · refine wp_bipush dX7_restore_58 rfl ?_
            exact wp_iret dX7_restore_60 rfl (by have e : rRst g R Z d i n a = ((-13), g) := (by unfold rRst; (repeat' split) <;> first | rfl | (exfalso; omega)); rw [e] at hQ; exact hQ _ _ _ _ hM FRm.rf (hnn _ (by omega)))
          · refine wp_iload_n dX7_restore_46 rfl ?_
            refine wp_aload_n dX7_restore_47 rfl ?_
            refine wp_getf dX7_restore_48 fX7_76 m51 rfl ?_
            refine wp_iload_n dX7_restore_51 rfl ?_
            refine wp_iav (v := Z d) dX7_restore_52 m68 (by decide) (by omega) rfl ?_
            refine wp_iload_n dX7_restore_53 rfl ?_
            refine wp_isub dX7_restore_54 ?_
            refine wp_icmp_le 61 dX7_restore_55 rfl (by first | assumption | exact hR _ | exact bI_r _ | (unfold r32; omega)) (by first | assumption | exact hR _ | exact bI_r _ | (unfold r32; omega)) (fun c55 => ?_) (fun c55 => ?_)
            · refine wp_iconst dX7_restore_61 ?_
              refine wp_istore (L' := [some (vR 51), some (vI d), some (vI i), some (vI n), some (vI a), some (vI 0)]) dX7_restore_62 (by decide) rfl ?_
              have e : rRst g R Z d i n a = rRsL (fun j => R (40 * d + i + j)) a n.toNat 0 g := by unfold rRst; rw [if_pos (by omega), if_neg (by omega), if_pos (by omega)]
              rw [e] at hQ
              have w := A_resL (r := fun j => R (40 * d + i + j)) (r' := fun j => R (40 * d + i + j)) (show 0 ≤ a ∧ a < 6 by omega) n.toNat 0 B f g hA hB (fun _ _ _ => rfl)
              refine lp_rrst (by omega) (by omega) (by omega) hr6 rn n.toNat 0 B f g (by omega) (by omega) hA hB (by omega) m51 m52 m67 ?_
              refine wp_aload_n dX7_restore_99 rfl ?_
              refine wp_iload dX7_restore_100 rfl ?_
              refine wp_iv1 dX7_restore_102 VX7_told lX7_164 (MV.row hM).1.choose_spec.choose_spec.choose_spec.choose_spec.choose_spec.choose_spec.choose_spec.choose_spec (rq0 rfl rfl) (Nat.le_of_ble_eq_true rfl) (N_told (MV.row hM) (by unfold r32; omega) hd (fun h' Kp' dn' km' k1 k2 k3 => ?_))
              dsimp only [pushR]
              exact wp_iret dX7_restore_105 rfl (hQ h' Kp' dn' km' k1 ((FRm.st (by decide)).tr k2) k3)
            · refine wp_bipush dX7_restore_58 rfl ?_
              exact wp_iret dX7_restore_60 rfl (by have e : rRst g R Z d i n a = ((-13), g) := (by unfold rRst; (repeat' split) <;> first | rfl | (exfalso; omega)); rw [e] at hQ; exact hQ _ _ _ _ hM FRm.rf (hnn _ (by omega)))
        · refine wp_bipush dX7_restore_39 rfl ?_
          exact wp_iret dX7_restore_41 rfl (by have e : rRst g R Z d i n a = ((-11), g) := (by unfold rRst; (repeat' split) <;> first | rfl | (exfalso; omega)); rw [e] at hQ; exact hQ _ _ _ _ hM FRm.rf (hnn _ (by omega)))
      · refine wp_iconst dX7_restore_27 ?_
        exact wp_iret dX7_restore_28 rfl (by have e : rRst g R Z d i n a = ((-1), g) := (by unfold rRst; (repeat' split) <;> first | rfl | (exfalso; omega)); rw [e] at hQ; exact hQ _ _ _ _ hM FRm.rf (hnn _ (by omega)))
/-- restoring answers alike -/
theorem A_restore {d i n a : Int} (h : AK B f g) (hB : 1000 ≤ B ∧ B ≤ 8000000) (hS : SHR Rc R Zc Z) (hZ : ∀ j, -1 ≤ Z j ∧ Z j ≤ 40) : (cRst f Rc Zc d i n a).1 = (rRst g R Z d i n a).1 ∧ AK (B + 3000) (cRst f Rc Zc d i n a).2 (rRst g R Z d i n a).2 ∧ vOK (rRst g R Z d i n a).1 := by
  unfold cRst rRst
  rcases Decidable.em ((0 ≤ d ∧ d < 4) ∧ (0 ≤ n ∧ n ≤ 10) ∧ (0 ≤ a ∧ a < 6)) with c | c
  · have e := hS.2 d c.1
    have z := hZ d
    rw [if_pos c, if_pos c]
    rcases Decidable.em (Z d = -1) with c1 | c1
    · rw [if_pos (by omega), if_pos c1]
      exact ⟨rfl, h.up (by omega), vk (by omega)⟩
    · rw [if_neg (by omega), if_neg c1]
      rcases Decidable.em (0 ≤ i ∧ i ≤ Z d - n) with c2 | c2
      · rw [if_pos (by omega), if_pos c2]
        have w := A_resL (r := fun j => Rc d (i + j)) (r' := fun j => R (40 * d + i + j)) c.2.2 n.toNat 0 B f g h hB.1 (fun j q1 q2 => by
          show Rc d (i + j) = R (40 * d + i + j)
          rw [hS.1 d (i + j) c.1 (by omega), Int.add_assoc])
        exact ⟨w.1, w.2.1.up (by omega), vk (by omega)⟩
      · rw [if_neg (by omega), if_neg c2]
        exact ⟨rfl, h.up (by omega), vk (by omega)⟩
  · rw [if_neg c, if_neg c]
    exact ⟨rfl, h.up (by omega), vk (by omega)⟩
end RT
