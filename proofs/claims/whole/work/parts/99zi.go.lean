/-! all orders, the class -/
def flI (f : Int → Int) (v : Int) (n : Int) : Int → Int := fun i => if 0 ≤ i ∧ i < n then v else f i
def cOb (K Fs S : Int → Int → Int) (f : Int → Int) (key n : Int) (o : Int → Int) : Int × Int × Int :=
  (wAl (exC K Fs S o n.toNat 0 z0 f) - wAl f, (if 0 < wOg (exC K Fs S o n.toNat 0 z0 f) then 1 else 0), if (exC K Fs S o n.toNat 0 z0 f) 0 < (exC K Fs S o n.toNat 0 z0 f) (sA 0 key + 5) then (exC K Fs S o n.toNat 0 z0 f) (sA 0 key + 0) else -1)
def ordL (ob : (Int → Int) → Int × Int × Int) (n : Int) : Nat → (Int → Int) → Int → Int → Int → Int → Int → (Int → Int) → (Int → Int) → Int × Int × Int × Int × Int × (Int → Int)
  | 0, _, t, s, l, m, un, fs, _ => (t, s, l, m, un, fs)
  | k + 1, o, t, s, l, m, un, fs, fv =>
    if risO o n < 0 then (t + 1, (if (ob o).2.1 = 1 then s + 1 else s), mnI l (ob o).1, mxI m (ob o).1, (if 0 ≤ (ob o).2.2 ∧ fv (ob o).2.2 = 0 then un + 1 else un), if (ob o).2.1 = 1 ∧ s = 0 then cpI o fs 0 0 n else fs)
    else ordL ob n k (nxO o n) (t + 1) (if (ob o).2.1 = 1 then s + 1 else s) (mnI l (ob o).1) (mxI m (ob o).1) (if 0 ≤ (ob o).2.2 ∧ fv (ob o).2.2 = 0 then un + 1 else un) (if (ob o).2.1 = 1 ∧ s = 0 then cpI o fs 0 0 n else fs) (if 0 ≤ (ob o).2.2 ∧ fv (ob o).2.2 = 0 then ud fv (ob o).2.2 1 else fv)
section GO_
variable {X : XS} {h h0 : AH} {Q : Option AV → AH → Prop} {K Fs S : Int → Int → Int} {sz P PS o cl dd f g tf fs fb fv : Int → Int} {n t s l m un B x key i it : Int} {pl : Int → Nat} {b : Nat × Nat}
theorem lp_fillI {p n : Nat} {v : Int} {b : Nat × Nat} (hn : n < 1000000) : ∀ (m : Nat) (k : Int) (f : Int → Int) (h : AH), k + m = n → 0 ≤ k → h[p]? = some (oI n f) → Q none (h.set p (oI n (flI f v n))) → (∀ i, 0 ≤ i ∧ i < k → f i = v) → Wp X kJ7_fill_53178 5 [some (vR p), some (vI v), some (vI k), some (vI n)] [] h b Q := by
  intro m
  induction m with
  | zero =>
    intro k f h h1 h2 hp hQ hf
    refine wp_iload_n dJ7_fill_53178_5 rfl ?_
    refine wp_iload_n dJ7_fill_53178_6 rfl ?_
    refine wp_icmp_ge 20 dJ7_fill_53178_7 rfl (by unfold r32; omega) (by unfold r32; omega) (fun c => ?_) (fun c => absurd (by omega) c)
    have e : flI f v n = f := by
      funext i
      unfold flI
      split
      · exact (hf i (by omega)).symm
      · rfl
    rw [e, set_same hp] at hQ
    exact wp_ret dJ7_fill_53178_20 rfl hQ
  | succ m ih =>
    intro k f h h1 h2 hp hQ hf
    refine wp_iload_n dJ7_fill_53178_5 rfl ?_
    refine wp_iload_n dJ7_fill_53178_6 rfl ?_
    refine wp_icmp_ge 20 dJ7_fill_53178_7 rfl (by unfold r32; omega) (by unfold r32; omega) (fun c => absurd c (by omega)) (fun c => ?_)
    refine wp_aload_n dJ7_fill_53178_10 rfl ?_
    refine wp_iload_n dJ7_fill_53178_11 rfl ?_
    refine wp_iload_n dJ7_fill_53178_12 rfl ?_
    refine wp_isv dJ7_fill_53178_13 hp (by omega) (by omega) ?_
    refine wp_iinc (L' := [some (vR p), some (vI v), some (vI (k + 1)), some (vI n)]) dJ7_fill_53178_14 rfl rfl ?_
    refine wp_goto 5 dJ7_fill_53178_17 rfl ?_
    refine ih (k + 1) (ud f k v) _ (by omega) (by omega) (gs_eq (gs_lt hp)) ?_ (fun i hi => ?_)
    · rw [List.set_set]
      have e : flI (ud f k v) v n = flI f v n := by
        funext i
        unfold flI
        split
        · rfl
        · rw [ud_ne (by omega)]
      rw [e]
      exact hQ
    · rcases Decidable.em (i = k) with e | e
      · subst e; exact ud_eq
      · rw [ud_ne e]; exact hf i (by omega)
theorem C_fillI {p n : Nat} {v : Int} {f : Int → Int} (hn : n < 1000000) (hp : h[p]? = some (oI n f)) (hQ : Q none (h.set p (oI n (flI f v n)))) : Cl X kJ7_fill_53178 [vR p, vI v] h Q := by
  refine cl_of rfl (Nat.le_of_ble_eq_true rfl) rfl ?_
  refine wp_iconst dJ7_fill_53178_0 ?_
  refine wp_istore_n (L' := [some (vR p), some (vI v), some (vI 0), none]) dJ7_fill_53178_1 (by decide) rfl ?_
  refine wp_aload_n dJ7_fill_53178_2 rfl ?_
  refine wp_alen dJ7_fill_53178_3 hp rfl ?_
  refine wp_istore_n (L' := [some (vR p), some (vI v), some (vI 0), some (vI n)]) dJ7_fill_53178_4 (by decide) rfl ?_
  exact lp_fillI hn n 0 f h (by omega) (by omega) hp hQ (fun i hi => by omega)
theorem exC_cong (hI : INo cl o n) : ∀ (mm : Nat) (i : Int) (dd dd' f : Int → Int), i + mm = n → 0 ≤ i → (∀ c, 0 ≤ c ∧ c < 6 → dd c = dd' c) → exC K Fs S o mm i dd f = exC K Fs S o mm i dd' f := by
  intro mm
  induction mm with
  | zero => intro i dd dd' f _ _ _; rfl
  | succ mm ih =>
    intro i dd dd' f h1 h2 hd
    have a := (hI i (by omega)).1
    unfold exC
    rw [hd (o i) a]
    refine ih (i + 1) _ _ _ (by omega) (by omega) (fun c hc => ?_)
    unfold ud
    split
    · rfl
    · exact hd c hc
theorem ORD.nx (hw : WB cl) (hO : ORD cl sz o n) (h0 : 0 ≤ risO o n) : ORD cl sz (nxO o n) n := ⟨hO.1, nx_in hO.1.1 h0 hO.2.1, fun c hc h1 => by rw [nx_cnt hO.1.1 h0]; exact hO.2.2 c hc h1⟩
theorem don0 {dd : Int → Int} (hd : ∀ c, 0 ≤ c ∧ c < 6 → dd c = 0) : DON o dd 0 := fun c hc => by rw [hd c hc]; rfl
theorem wAl_b (hA : AK B f g) : 0 ≤ wAl f ∧ wAl f ≤ 3 * B := by
  have o0 := hA.1.1.O 0 (by omega)
  have o1 := hA.1.1.O 1 (by omega)
  have o2 := hA.1.1.O 2 (by omega)
  have b0 := hA.2.1.b (13 + 0)
  have b1 := hA.2.1.b (13 + 1)
  have b2 := hA.2.1.b (13 + 2)
  have c0 := hA.2.1.n0 (j := 13 + 0) (by omega)
  have c1 := hA.2.1.n0 (j := 13 + 1) (by omega)
  have c2 := hA.2.1.n0 (j := 13 + 2) (by omega)
  have e : wAl f = 0 + f (33 + 0) + f (33 + (0 + 1)) + f (33 + (0 + 1 + 1)) := rfl
  have z1 : f (33 + (0 + 1)) = f (33 + 1) := rfl
  have z2 : f (33 + (0 + 1 + 1)) = f (33 + 2) := rfl
  omega
set_option maxHeartbeats 4000000 in
theorem lp_go (h01 : h0[1]? = some (oO 5 [vR 2])) (h02 : h0[2]? = some (oI 1060 f)) (h03 : h0[3]? = some (oO 5 [vR 4])) (hzf : SmZ f) (hP : PL h0 pl K Fs S sz) (hR : PRel K Fs S sz P PS) (hw : WB cl) (h3 : cnt cl ≤ 3) (hA : AK B f g) (hB : 1000 ≤ B) (hBB : B + 10000 ≤ 8000000) (hk : 0 ≤ key ∧ key < 10) : ∀ (kk : Nat) (o : Int → Int) (t s l m un it : Int) (fs pi fb fv tf : Int → Int) (h : AH) (y7 y8 : Option AV), 6561 ≤ wvO (rkO cl) o n.toNat + kk → ORD cl sz o n → 0 ≤ it ∧ it ≤ wvO (rkO cl) o n.toNat → 0 ≤ s ∧ s ≤ it → r32 l → r32 m → SmZ tf → FBr fb fv un → OPL h0 h n t s l m o fs pi fb tf → (∀ h' o' pi' fb' fv' tf', OPL h0 h' n (ordL (cOb K Fs S f key n) n kk o t s l m un fs fv).1 (ordL (cOb K Fs S f key n) n kk o t s l m un fs fv).2.1 (ordL (cOb K Fs S f key n) n kk o t s l m un fs fv).2.2.1 (ordL (cOb K Fs S f key n) n kk o t s l m un fs fv).2.2.2.1 o' (ordL (cOb K Fs S f key n) n kk o t s l m un fs fv).2.2.2.2.2 pi' fb' tf' → FBr fb' fv' (ordL (cOb K Fs S f key n) n kk o t s l m un fs fv).2.2.2.2.1 → SmZ tf' → Q none h') → Wp X kX1_goThrough 41 [some (vR 9), some (vR 1), some (vR 16), some (vI x), some (vI key), some (vI 1), some (vI it), y7, y8] [] h b Q := by
  intro kk
  induction kk with
  | zero =>
    intro o t s l m un it fs pi fb fv tf h y7 y8 q0 hO
    have := wvO_ok hw h3 hO.1 hO.2.1
    exact absurd q0 (by omega)
  | succ kk ih =>
    intro o t s l m un it fs pi fb fv tf h y7 y8 q0 hO q1 q2 rl rm hzt hF hp hQ
    obtain ⟨s1, s2, s9, s10, s11, s12, s13, s4⟩ := id hp
    have vb := wvO_ok hw h3 hO.1 hO.2.1
    have g1 := (s2 1 (by decide) (by decide)).trans h01
    have g2 := (s2 2 (by decide) (by decide)).trans h02
    have s3 := (s2 3 (by decide) (by decide)).trans h03
    have hn := hO.1
    have d0 : ∀ c, 0 ≤ c ∧ c < 6 → flI pi 0 ((6 : Nat) : Int) c = 0 := fun c hc => if_pos ⟨hc.1, by omega⟩
    have ex := ex_eq hR hO n.toNat 0 (flI pi 0 ((6 : Nat) : Int)) f g B (by omega) (by omega) (don0 d0) hA hB (by omega)
    have ec : exC K Fs S o n.toNat 0 (flI pi 0 ((6 : Nat) : Int)) f = exC K Fs S o n.toNat 0 z0 f := exC_cong hO.2.1 n.toNat 0 _ _ f (by omega) (by omega) (fun c hc => d0 c hc)
    have hiw0 := (hA.iw hB).1
    have hob : cOb K Fs S f key n o = (wAl (exC K Fs S o n.toNat 0 z0 f) - wAl f, (if 0 < wOg (exC K Fs S o n.toNat 0 z0 f) then 1 else 0), if (exC K Fs S o n.toNat 0 z0 f) 0 < (exC K Fs S o n.toNat 0 z0 f) (sA 0 key + 5) then (exC K Fs S o n.toNat 0 z0 f) (sA 0 key + 0) else -1) := rfl
    unfold ordL at hQ
    rw [hob] at hQ
    rw [ec] at ex
    dsimp only at hQ
    refine wp_iload dX1_goThrough_41 rfl ?_
    refine wp_if_eq 160 dX1_goThrough_43 rfl ⟨by omega, by omega⟩ (fun c43 => absurd c43 (by omega)) (fun c43 => ?_)
    refine wp_iload dX1_goThrough_46 rfl ?_
    refine wp_ldc dX1_goThrough_48 cX1_55 ?_
    refine wp_icmp_ge 160 dX1_goThrough_50 rfl (by first | assumption | (unfold r32; omega)) ⟨by omega, by omega⟩ (fun c50 => ?_) (fun c50 => ?_)
    · exfalso; omega
    · refine wp_aload_n dX1_goThrough_53 rfl ?_
      refine wp_getf dX1_goThrough_54 fX1_25 s9 rfl ?_
      refine wp_aload_n dX1_goThrough_57 rfl ?_
      refine wp_getf dX1_goThrough_58 fX1_56 g1 rfl ?_
      refine wp_iv1 dX1_goThrough_61 VX5_copyFrom lX1_61 s3 (rq0 rfl rfl) (Nat.le_of_ble_eq_true rfl) (sa_of s4 (C_wcopyFrom (r := 2) (sa_mk (by decide) s3 rfl s4) (gs_ne (by decide) g2) ?_))
      dsimp only [pushR]
      rw [cp_same hzf hzt]
      refine wp_aload_n dX1_goThrough_64 rfl ?_
      refine wp_getf dX1_goThrough_65 fX1_18 (gs_ne (by decide) s9) rfl ?_
      refine wp_iconst dX1_goThrough_68 ?_
      refine wp_is2 dX1_goThrough_69 SJ7_fill_53178 lX1_65 (rq0 rfl rfl) (Nat.le_of_ble_eq_true rfl) (C_fillI (by decide) (gs_ne (by decide) s12) ?_)
      dsimp only [pushR]
      refine wp_iconst dX1_goThrough_72 ?_
      refine wp_istore (L' := [some (vR 9), some (vR 1), some (vR 16), some (vI x), some (vI key), some (vI 1), some (vI it), some (vI 0), y8]) dX1_goThrough_73 (by decide) rfl ?_
      have hp1 : OPL h0 ((h.set 4 (oI 1060 f)).set 12 (oI 6 (flI pi 0 ((6 : Nat) : Int)))) n t s l m o fs (flI pi 0 ((6 : Nat) : Int)) fb f := ⟨by simp only [List.length_set]; exact s1, fun j q4 q => by (repeat rw [List.getElem?_set_ne (by omega)]); exact s2 j q4 q, (gs_ne (by decide) (gs_ne (by decide) s9)), (gs_ne (by decide) (gs_ne (by decide) s10)), (gs_ne (by decide) (gs_ne (by decide) s11)), (gs_eq (gs_l (gs_lt s12))), (gs_ne (by decide) (gs_ne (by decide) s13)), (gs_ne (by decide) (gs_eq (gs_lt s4)))⟩
      refine lp_ex h03 hP hR hO n.toNat 0 _ f g B _ _ (by omega) (by omega) (don0 d0) hA hB (by omega) hp1 (fun h1 dd1 y8 hp2 => ?_)
      rw [ec] at hp2
      obtain ⟨u_1, u_2, u9, u10, u11, u12, u13, u4⟩ := id hp2
      have u1 := (u_2 1 (by decide) (by decide)).trans h01
      have u2 := (u_2 2 (by decide) (by decide)).trans h02
      have u3 := (u_2 3 (by decide) (by decide)).trans h03
      generalize exC K Fs S o n.toNat 0 z0 f = fo at *
      generalize exR P o n.toNat 0 (flI pi 0 ((6 : Nat) : Int)) g = go at *
      have hiw := (ex.iw (by omega)).1
      have b1 := wAl_b ex
      have b0 := wAl_b hA
      have rL : r32 (wAl fo - wAl f) := by unfold r32; omega
      have en := (ex.2.1.en (a := 0) (k := key) (by omega) hk).2.1
      have sp := ex.1.1.S 0 key (by omega) hk
      have vv : 0 ≤ fo (sA 0 key + 0) ∧ fo (sA 0 key + 0) ≤ 999 := by omega
      have hFs := hF.step vv
      refine wp_aload_n dX1_goThrough_130 rfl ?_
      refine wp_aload_n dX1_goThrough_131 rfl ?_
      refine wp_getf dX1_goThrough_132 fX1_25 u9 rfl ?_
      refine wp_iv0 dX1_goThrough_135 VX5_allLoads lX1_77 u3 (rq0 rfl rfl) (Nat.le_of_ble_eq_true rfl) (sa_of u4 (C_wallLoads (sa_mk (by decide) u3 rfl u4) hiw (by omega) ?_))
      dsimp only [pushR]
      rw [set_same u4]
      refine wp_aload_n dX1_goThrough_138 rfl ?_
      refine wp_iv0 dX1_goThrough_139 VX5_allLoads lX1_77 u1 (rq0 rfl rfl) (Nat.le_of_ble_eq_true rfl) (sa_of u2 (C_wallLoads (sa_mk (by decide) u1 rfl u2) hiw0 (by omega) ?_))
      dsimp only [pushR]
      rw [set_same u2]
      refine wp_isub dX1_goThrough_142 ?_
      refine wp_iload dX1_goThrough_143 rfl ?_
      refine wp_iv2 dX1_goThrough_145 VX1_weigh lX1_81 u9 (rq0 rfl rfl) (Nat.le_of_ble_eq_true rfl) (C_weigh hp2 h03 ex (by omega) (by omega) hk rL rl rm (by omega) hF.1 (fun h2 hp3 => ?_))
      dsimp only [pushR]
      obtain ⟨v_1, v_2, v9, v10, v11, v12, v13, v4⟩ := id hp3
      refine wp_aload_n dX1_goThrough_148 rfl ?_
      refine wp_iv0 dX1_goThrough_149 VX1_turnToNextOrder lX1_85 v9 (rq0 rfl rfl) (Nat.le_of_ble_eq_true rfl) (sa_of v10 (C_cnext v9 v10 (by omega) (fun i a d => by have := (hO.2.1 i ⟨a, d⟩).1; unfold r32; omega) (fun ri => ?_) (fun ri => ?_)))
      · dsimp only [pushR]
        rw [set_same v10]
        refine wp_istore (L' := [some (vR 9), some (vR 1), some (vR 16), some (vI x), some (vI key), some (vI 0), some (vI it), some (vI n), y8]) dX1_goThrough_152 (by decide) rfl ?_
        refine wp_iinc (L' := [some (vR 9), some (vR 1), some (vR 16), some (vI x), some (vI key), some (vI 0), some (vI (it + 1)), some (vI n), y8]) dX1_goThrough_154 rfl rfl ?_
        refine wp_goto 41 dX1_goThrough_157 rfl ?_
        refine wp_iload dX1_goThrough_41 rfl ?_
        refine wp_if_eq 160 dX1_goThrough_43 rfl ⟨by omega, by omega⟩ (fun c43 => ?_) (fun c43 => absurd c43 (by omega))
        exact wp_ret dX1_goThrough_160 rfl (by
            have e1 : (if (if 0 < wOg fo then (1 : Int) else 0) = 1 then s + 1 else s) = if 0 < wOg fo then s + 1 else s := by split <;> split <;> omega
            have e2 : (if (if 0 < wOg fo then (1 : Int) else 0) = 1 ∧ s = 0 then cpI o fs 0 0 n else fs) = if 0 < wOg fo ∧ s = 0 then cpI o fs 0 0 n else fs := by (repeat' split) <;> first | rfl | (exfalso; omega)
            have hF2 : FBr (if fo 0 < fo (sA 0 key + 5) then orB fb (fo (sA 0 key + 0)) else fb) (if 0 ≤ (if fo 0 < fo (sA 0 key + 5) then fo (sA 0 key + 0) else -1) ∧ fv (if fo 0 < fo (sA 0 key + 5) then fo (sA 0 key + 0) else -1) = 0 then ud fv (if fo 0 < fo (sA 0 key + 5) then fo (sA 0 key + 0) else -1) 1 else fv) (if 0 ≤ (if fo 0 < fo (sA 0 key + 5) then fo (sA 0 key + 0) else -1) ∧ fv (if fo 0 < fo (sA 0 key + 5) then fo (sA 0 key + 0) else -1) = 0 then un + 1 else un) := by
              rcases Decidable.em (fo 0 < fo (sA 0 key + 5)) with c | c
              · rw [if_pos c, if_pos c]
                rcases Decidable.em (fv (fo (sA 0 key + 0)) = 0) with d | d
                · rw [if_pos d, if_pos d] at hFs; rw [if_pos ⟨vv.1, d⟩, if_pos ⟨vv.1, d⟩]; exact hFs
                · rw [if_neg d, if_neg d] at hFs; rw [if_neg (fun q => d q.2), if_neg (fun q => d q.2)]; exact hFs
              · rw [if_neg c, if_neg c, if_neg (fun q => absurd q.1 (by omega)), if_neg (fun q => absurd q.1 (by omega))]; exact hF
            rw [e1, e2] at hQ
            rw [if_pos ri] at hQ
            exact hQ _ _ _ _ _ _ hp3 hF2 ex.1.1.Z)
      · dsimp only [pushR]
        refine wp_istore (L' := [some (vR 9), some (vR 1), some (vR 16), some (vI x), some (vI key), some (vI 1), some (vI it), some (vI n), y8]) dX1_goThrough_152 (by decide) rfl ?_
        refine wp_iinc (L' := [some (vR 9), some (vR 1), some (vR 16), some (vI x), some (vI key), some (vI 1), some (vI (it + 1)), some (vI n), y8]) dX1_goThrough_154 rfl rfl ?_
        refine wp_goto 41 dX1_goThrough_157 rfl ?_
        have e1 : (if (if 0 < wOg fo then (1 : Int) else 0) = 1 then s + 1 else s) = if 0 < wOg fo then s + 1 else s := by split <;> split <;> omega
        have e2 : (if (if 0 < wOg fo then (1 : Int) else 0) = 1 ∧ s = 0 then cpI o fs 0 0 n else fs) = if 0 < wOg fo ∧ s = 0 then cpI o fs 0 0 n else fs := by (repeat' split) <;> first | rfl | (exfalso; omega)
        have hF2 : FBr (if fo 0 < fo (sA 0 key + 5) then orB fb (fo (sA 0 key + 0)) else fb) (if 0 ≤ (if fo 0 < fo (sA 0 key + 5) then fo (sA 0 key + 0) else -1) ∧ fv (if fo 0 < fo (sA 0 key + 5) then fo (sA 0 key + 0) else -1) = 0 then ud fv (if fo 0 < fo (sA 0 key + 5) then fo (sA 0 key + 0) else -1) 1 else fv) (if 0 ≤ (if fo 0 < fo (sA 0 key + 5) then fo (sA 0 key + 0) else -1) ∧ fv (if fo 0 < fo (sA 0 key + 5) then fo (sA 0 key + 0) else -1) = 0 then un + 1 else un) := by
          rcases Decidable.em (fo 0 < fo (sA 0 key + 5)) with c | c
          · rw [if_pos c, if_pos c]
            rcases Decidable.em (fv (fo (sA 0 key + 0)) = 0) with d | d
            · rw [if_pos d, if_pos d] at hFs; rw [if_pos ⟨vv.1, d⟩, if_pos ⟨vv.1, d⟩]; exact hFs
            · rw [if_neg d, if_neg d] at hFs; rw [if_neg (fun q => d q.2), if_neg (fun q => d q.2)]; exact hFs
          · rw [if_neg c, if_neg c, if_neg (fun q => absurd q.1 (by omega)), if_neg (fun q => absurd q.1 (by omega))]; exact hF
        rw [e1, e2] at hQ
        rw [if_neg (by omega)] at hQ
        have nl := nx_lt hw h3 hn.1 ri hO.2.1
        have hp4 : OPL h0 (h2.set 10 (oI 8 (nxO o n))) n (t + 1) (if 0 < wOg fo then s + 1 else s) (mnI l (wAl fo - wAl f)) (mxI m (wAl fo - wAl f)) (nxO o n) (if 0 < wOg fo ∧ s = 0 then cpI o fs 0 0 n else fs) dd1 (if fo 0 < fo (sA 0 key + 5) then orB fb (fo (sA 0 key + 0)) else fb) fo := ⟨by simp only [List.length_set]; exact v_1, fun j q4 q => by (repeat rw [List.getElem?_set_ne (by omega)]); exact v_2 j q4 q, gs_ne (by decide) v9, gs_eq (gs_lt v10), gs_ne (by decide) v11, gs_ne (by decide) v12, gs_ne (by decide) v13, gs_ne (by decide) v4⟩
        exact ih (nxO o n) _ _ _ _ _ (it + 1) _ _ _ _ _ _ _ _ (by omega) (hO.nx hw ri) (by omega) (by split <;> omega) (by unfold mnI; split <;> assumption) (by unfold mxI; split <;> assumption) ex.1.1.Z hF2 hp4 hQ
end GO_
