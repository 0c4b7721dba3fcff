/-! short rows for what the generator lays -/
section SAR
variable {X : XS} {K : Kd} {pc : Nat} {L : List (Option AV)} {S : List AV} {h : AH} {b : Nat × Nat} {Q : Option AV → AH → Prop}
def rmB (K K' : Kd) : Bool := decide (K'.2.2.2.2.1.1 + 1 ≤ K.2.2.2.2.1.1) && decide (8 + (K'.2.2.1 + 11) + K'.2.2.2.2.1.2 ≤ K.2.2.2.2.1.2)
def rmZ (K' : Kd) : Bool := decide (K'.2.2.2.2.2 = (0, 0))
theorem rq0 {K' : Kd} (h1 : rmB K K' = true) (h2 : rmZ K' = true) : RMK K K' b b := by
  unfold rmB at h1
  unfold rmZ at h2
  simp only [Bool.and_eq_true, decide_eq_true_eq] at h1 h2
  refine ⟨h1.1, h1.2, ?_, ?_⟩ <;> rw [h2] <;> omega
theorem rq1 {K' : Kd} (b' : Nat × Nat) (h1 : rmB K K' = true) (h2 : K'.2.2.2.2.2.1 + b'.1 ≤ b.1) (h3 : K'.2.2.2.2.2.2 + b'.2 ≤ b.2) : RMK K K' b b' := by
  unfold rmB at h1
  simp only [Bool.and_eq_true, decide_eq_true_eq] at h1
  exact ⟨h1.1, h1.2, h2, h3⟩
/-- an instance method, ready to be called on an object of class number ci -/
def IV (K' : Kd) (n ci : Nat) : Prop := MK K' n ∧ Cond.instanceMethod K'.1 ∈ gdT ∧ Cond.selects K'.1.cls K'.1 K'.1 ∈ gdT ∧ ∃ q : vw_C, vwCl[ci]? = some q ∧ q.1 = K'.1.cls
def SV (K' : Kd) (n : Nat) : Prop := MK K' n ∧ Cond.static K'.1 ∈ gdT
section
variable {K' : Kd} {b' : Nat × Nat} {idx i ci : Nat} {fs : List AV} {S0 : List AV} {v1 v2 v3 v4 v5 : AV}
theorem wp_iv (As : List AV) {n : Nat} (hS0 : S = As.reverse ++ vR i :: S0) (hn : As.length = n) (hd : decode K.2.1 pc = .ok (.invokevirtual idx, 3)) (hm : IV K' n ci) (hl : Cond.methodLink K.1.cls idx K'.1 ∈ gdT) (hi : h[i]? = some (oO ci fs)) (hrm : RMK K K' b b') (hcat : catS S0 ≤ 8) (hcl : Cl X K' (vR i :: As) h (fun r h' => Wp X K (pc + 3) L (pushR r S0) h' b' Q)) : Wp X K pc L S h b Q := by
  obtain ⟨h1, h2, h3, q, h4, h5⟩ := hm
  exact wp_invv hS0 hd h1 h2 h3 hl hn hrm hcat hi h4 h5 hcl
theorem wp_iv0 (hd : decode K.2.1 pc = .ok (.invokevirtual idx, 3)) (hm : IV K' 0 ci) (hl : Cond.methodLink K.1.cls idx K'.1 ∈ gdT) (hi : h[i]? = some (oO ci fs)) (hrm : RMK K K' b b') (hcat : catS S0 ≤ 8) (hcl : Cl X K' [vR i] h (fun r h' => Wp X K (pc + 3) L (pushR r S0) h' b' Q)) : Wp X K pc L (vR i :: S0) h b Q := wp_iv [] rfl rfl hd hm hl hi hrm hcat hcl
theorem wp_iv1 (hd : decode K.2.1 pc = .ok (.invokevirtual idx, 3)) (hm : IV K' 1 ci) (hl : Cond.methodLink K.1.cls idx K'.1 ∈ gdT) (hi : h[i]? = some (oO ci fs)) (hrm : RMK K K' b b') (hcat : catS S0 ≤ 8) (hcl : Cl X K' [vR i, v1] h (fun r h' => Wp X K (pc + 3) L (pushR r S0) h' b' Q)) : Wp X K pc L (v1 :: vR i :: S0) h b Q := wp_iv [v1] rfl rfl hd hm hl hi hrm hcat hcl
theorem wp_iv2 (hd : decode K.2.1 pc = .ok (.invokevirtual idx, 3)) (hm : IV K' 2 ci) (hl : Cond.methodLink K.1.cls idx K'.1 ∈ gdT) (hi : h[i]? = some (oO ci fs)) (hrm : RMK K K' b b') (hcat : catS S0 ≤ 8) (hcl : Cl X K' [vR i, v1, v2] h (fun r h' => Wp X K (pc + 3) L (pushR r S0) h' b' Q)) : Wp X K pc L (v2 :: v1 :: vR i :: S0) h b Q := wp_iv [v1, v2] rfl rfl hd hm hl hi hrm hcat hcl
theorem wp_iv3 (hd : decode K.2.1 pc = .ok (.invokevirtual idx, 3)) (hm : IV K' 3 ci) (hl : Cond.methodLink K.1.cls idx K'.1 ∈ gdT) (hi : h[i]? = some (oO ci fs)) (hrm : RMK K K' b b') (hcat : catS S0 ≤ 8) (hcl : Cl X K' [vR i, v1, v2, v3] h (fun r h' => Wp X K (pc + 3) L (pushR r S0) h' b' Q)) : Wp X K pc L (v3 :: v2 :: v1 :: vR i :: S0) h b Q := wp_iv [v1, v2, v3] rfl rfl hd hm hl hi hrm hcat hcl
theorem wp_iv4 (hd : decode K.2.1 pc = .ok (.invokevirtual idx, 3)) (hm : IV K' 4 ci) (hl : Cond.methodLink K.1.cls idx K'.1 ∈ gdT) (hi : h[i]? = some (oO ci fs)) (hrm : RMK K K' b b') (hcat : catS S0 ≤ 8) (hcl : Cl X K' [vR i, v1, v2, v3, v4] h (fun r h' => Wp X K (pc + 3) L (pushR r S0) h' b' Q)) : Wp X K pc L (v4 :: v3 :: v2 :: v1 :: vR i :: S0) h b Q := wp_iv [v1, v2, v3, v4] rfl rfl hd hm hl hi hrm hcat hcl
theorem wp_iv5 (hd : decode K.2.1 pc = .ok (.invokevirtual idx, 3)) (hm : IV K' 5 ci) (hl : Cond.methodLink K.1.cls idx K'.1 ∈ gdT) (hi : h[i]? = some (oO ci fs)) (hrm : RMK K K' b b') (hcat : catS S0 ≤ 8) (hcl : Cl X K' [vR i, v1, v2, v3, v4, v5] h (fun r h' => Wp X K (pc + 3) L (pushR r S0) h' b' Q)) : Wp X K pc L (v5 :: v4 :: v3 :: v2 :: v1 :: vR i :: S0) h b Q := wp_iv [v1, v2, v3, v4, v5] rfl rfl hd hm hl hi hrm hcat hcl
theorem wp_is (As : List AV) {n : Nat} (hS0 : S = As.reverse ++ S0) (hn : As.length = n) (hd : decode K.2.1 pc = .ok (.invokestatic idx, 3)) (hm : SV K' n) (hl : Cond.methodLink K.1.cls idx K'.1 ∈ gdT) (hrm : RMK K K' b b') (hcat : catS S0 ≤ 8) (hcl : Cl X K' As h (fun r h' => Wp X K (pc + 3) L (pushR r S0) h' b' Q)) : Wp X K pc L S h b Q :=
  wp_invs hS0 hd hm.1 hm.2 hl hn hrm hcat hcl
theorem wp_is1 (hd : decode K.2.1 pc = .ok (.invokestatic idx, 3)) (hm : SV K' 1) (hl : Cond.methodLink K.1.cls idx K'.1 ∈ gdT) (hrm : RMK K K' b b') (hcat : catS S0 ≤ 8) (hcl : Cl X K' [v1] h (fun r h' => Wp X K (pc + 3) L (pushR r S0) h' b' Q)) : Wp X K pc L (v1 :: S0) h b Q := wp_is [v1] rfl rfl hd hm hl hrm hcat hcl
theorem wp_is2 (hd : decode K.2.1 pc = .ok (.invokestatic idx, 3)) (hm : SV K' 2) (hl : Cond.methodLink K.1.cls idx K'.1 ∈ gdT) (hrm : RMK K K' b b') (hcat : catS S0 ≤ 8) (hcl : Cl X K' [v1, v2] h (fun r h' => Wp X K (pc + 3) L (pushR r S0) h' b' Q)) : Wp X K pc L (v2 :: v1 :: S0) h b Q := wp_is [v1, v2] rfl rfl hd hm hl hrm hcat hcl
theorem wp_is3 (hd : decode K.2.1 pc = .ok (.invokestatic idx, 3)) (hm : SV K' 3) (hl : Cond.methodLink K.1.cls idx K'.1 ∈ gdT) (hrm : RMK K K' b b') (hcat : catS S0 ≤ 8) (hcl : Cl X K' [v1, v2, v3] h (fun r h' => Wp X K (pc + 3) L (pushR r S0) h' b' Q)) : Wp X K pc L (v3 :: v2 :: v1 :: S0) h b Q := wp_is [v1, v2, v3] rfl rfl hd hm hl hrm hcat hcl
theorem wp_is4 (hd : decode K.2.1 pc = .ok (.invokestatic idx, 3)) (hm : SV K' 4) (hl : Cond.methodLink K.1.cls idx K'.1 ∈ gdT) (hrm : RMK K K' b b') (hcat : catS S0 ≤ 8) (hcl : Cl X K' [v1, v2, v3, v4] h (fun r h' => Wp X K (pc + 3) L (pushR r S0) h' b' Q)) : Wp X K pc L (v4 :: v3 :: v2 :: v1 :: S0) h b Q := wp_is [v1, v2, v3, v4] rfl rfl hd hm hl hrm hcat hcl
end
/-- a truth as an int -/
def bI (P : Prop) [Decidable P] : Int := if P then 1 else 0
theorem bI_r (P : Prop) [Decidable P] : r32 (bI P) := by unfold bI; split <;> exact ⟨by omega, by omega⟩
theorem bI_01 (P : Prop) [Decidable P] : bI P = 0 ∨ bI P = 1 := by unfold bI; split <;> simp
theorem bI_0 {P : Prop} [Decidable P] : bI P = 0 ↔ ¬ P := by unfold bI; split <;> simp_all
theorem bI_t {P : Prop} [Decidable P] (h : P) : bI P = 1 := if_pos h
theorem bI_f {P : Prop} [Decidable P] (h : ¬ P) : bI P = 0 := if_neg h
theorem wp_beq {P : Prop} [Decidable P] {off : Int} (tgt : Nat) (hd : decode K.2.1 pc = .ok (.ifCond .eq off, 3)) (ht : (pc : Int) + off = (tgt : Int)) (kt : ¬ P → Wp X K tgt L S h b Q) (kf : P → Wp X K (pc + 3) L S h b Q) : Wp X K pc L (vI (bI P) :: S) h b Q :=
  wp_if_eq tgt hd ht (bI_r P) (fun q => kt (bI_0.mp q)) (fun q => kf (Decidable.not_not.mp fun z => q (bI_0.mpr z)))
theorem wp_bne {P : Prop} [Decidable P] {off : Int} (tgt : Nat) (hd : decode K.2.1 pc = .ok (.ifCond .ne off, 3)) (ht : (pc : Int) + off = (tgt : Int)) (kt : P → Wp X K tgt L S h b Q) (kf : ¬ P → Wp X K (pc + 3) L S h b Q) : Wp X K pc L (vI (bI P) :: S) h b Q :=
  wp_if_ne tgt hd ht (bI_r P) (fun q => kt (Decidable.not_not.mp fun z => q (bI_0.mpr z))) (fun q => kf (bI_0.mp q))
/-- an object (class ci, place p) whose first field is the array at place q, which holds g -/
def SA (ci p q : Nat) (h : AH) : Prop := p ≠ q ∧ q < h.length ∧ ∃ fs, h[p]? = some (oO ci fs) ∧ fs[0]? = some (vR q)
theorem SA.obj {ci p q : Nat} {c : AC} (k : SA ci p q h) : ∃ fs, (h.set q c)[p]? = some (oO ci fs) ∧ fs[0]? = some (vR q) := by
  obtain ⟨h1, h2, fs, h3, h4⟩ := k
  exact ⟨fs, by rw [List.getElem?_set_ne (Ne.symm h1)]; exact h3, h4⟩
theorem SA.arr {ci p q : Nat} {c : AC} (k : SA ci p q h) : (h.set q c)[q]? = some c := by simp [k.2.1]
theorem sa_get {ci p q idx : Nat} {c : AC} (hS : SA ci p q h) (hd : decode K.2.1 pc = .ok (.getfield idx, 3)) (hl : FL K.1.cls idx ci 0) (kk : Wp X K (pc + 3) L (vR q :: S) (h.set q c) b Q) : Wp X K pc L (vR p :: S) (h.set q c) b Q := by
  obtain ⟨fs, h1, h2⟩ := hS.obj (c := c)
  exact wp_getf hd hl h1 h2 kk
theorem ud_eq {f : Int → Int} {j x : Int} : ud f j x j = x := if_pos rfl
theorem ud_ne {f : Int → Int} {j x k : Int} (h : k ≠ j) : ud f j x k = f k := if_neg h
theorem sa_ld {ci p q n : Nat} {g : Int → Int} {j v : Int} (hS : SA ci p q h) (hd : decode K.2.1 pc = .ok (.iaload, 1)) (hn : n < 2147483648) (h0 : 0 ≤ j ∧ j < n) (hv : g j = v) (kk : Wp X K (pc + 1) L (vI v :: S) (h.set q (oI n g)) b Q) : Wp X K pc L (vI j :: vR q :: S) (h.set q (oI n g)) b Q :=
  wp_iald hd hS.arr hn h0.1 h0.2 (hv ▸ kk)
theorem sa_st {ci p q n : Nat} {g : Int → Int} {j x : Int} (hS : SA ci p q h) (hd : decode K.2.1 pc = .ok (.iastore, 1)) (hn : n < 2147483648) (h0 : 0 ≤ j ∧ j < n) (kk : Wp X K (pc + 1) L S (h.set q (oI n (ud g j x))) b Q) : Wp X K pc L (vI x :: vI j :: vR q :: S) (h.set q (oI n g)) b Q :=
  wp_iast hd hS.arr hn h0.1 h0.2 (by rw [List.set_set]; exact kk)
section
variable {K' : Kd} {b' : Nat × Nat} {idx ci p q n0 : Nat} {c : AC} {S0 : List AV} {v1 v2 v3 v4 v5 : AV}
theorem sa_i0 (hS : SA ci p q h) (hd : decode K.2.1 pc = .ok (.invokevirtual idx, 3)) (hm : IV K' 0 ci) (hl : Cond.methodLink K.1.cls idx K'.1 ∈ gdT) (hrm : RMK K K' b b') (hcat : catS S0 ≤ 8) (hcl : Cl X K' [vR p] (h.set q c) (fun r h' => Wp X K (pc + 3) L (pushR r S0) h' b' Q)) : Wp X K pc L (vR p :: S0) (h.set q c) b Q := by
  obtain ⟨fs, h1, h2⟩ := hS.obj (c := c)
  exact wp_iv0 hd hm hl h1 hrm hcat hcl
theorem sa_i1 (hS : SA ci p q h) (hd : decode K.2.1 pc = .ok (.invokevirtual idx, 3)) (hm : IV K' 1 ci) (hl : Cond.methodLink K.1.cls idx K'.1 ∈ gdT) (hrm : RMK K K' b b') (hcat : catS S0 ≤ 8) (hcl : Cl X K' [vR p, v1] (h.set q c) (fun r h' => Wp X K (pc + 3) L (pushR r S0) h' b' Q)) : Wp X K pc L (v1 :: vR p :: S0) (h.set q c) b Q := by
  obtain ⟨fs, h1, h2⟩ := hS.obj (c := c)
  exact wp_iv1 hd hm hl h1 hrm hcat hcl
theorem sa_i2 (hS : SA ci p q h) (hd : decode K.2.1 pc = .ok (.invokevirtual idx, 3)) (hm : IV K' 2 ci) (hl : Cond.methodLink K.1.cls idx K'.1 ∈ gdT) (hrm : RMK K K' b b') (hcat : catS S0 ≤ 8) (hcl : Cl X K' [vR p, v1, v2] (h.set q c) (fun r h' => Wp X K (pc + 3) L (pushR r S0) h' b' Q)) : Wp X K pc L (v2 :: v1 :: vR p :: S0) (h.set q c) b Q := by
  obtain ⟨fs, h1, h2⟩ := hS.obj (c := c)
  exact wp_iv2 hd hm hl h1 hrm hcat hcl
theorem sa_i3 (hS : SA ci p q h) (hd : decode K.2.1 pc = .ok (.invokevirtual idx, 3)) (hm : IV K' 3 ci) (hl : Cond.methodLink K.1.cls idx K'.1 ∈ gdT) (hrm : RMK K K' b b') (hcat : catS S0 ≤ 8) (hcl : Cl X K' [vR p, v1, v2, v3] (h.set q c) (fun r h' => Wp X K (pc + 3) L (pushR r S0) h' b' Q)) : Wp X K pc L (v3 :: v2 :: v1 :: vR p :: S0) (h.set q c) b Q := by
  obtain ⟨fs, h1, h2⟩ := hS.obj (c := c)
  exact wp_iv3 hd hm hl h1 hrm hcat hcl
theorem sa_i4 (hS : SA ci p q h) (hd : decode K.2.1 pc = .ok (.invokevirtual idx, 3)) (hm : IV K' 4 ci) (hl : Cond.methodLink K.1.cls idx K'.1 ∈ gdT) (hrm : RMK K K' b b') (hcat : catS S0 ≤ 8) (hcl : Cl X K' [vR p, v1, v2, v3, v4] (h.set q c) (fun r h' => Wp X K (pc + 3) L (pushR r S0) h' b' Q)) : Wp X K pc L (v4 :: v3 :: v2 :: v1 :: vR p :: S0) (h.set q c) b Q := by
  obtain ⟨fs, h1, h2⟩ := hS.obj (c := c)
  exact wp_iv4 hd hm hl h1 hrm hcat hcl
theorem sa_i5 (hS : SA ci p q h) (hd : decode K.2.1 pc = .ok (.invokevirtual idx, 3)) (hm : IV K' 5 ci) (hl : Cond.methodLink K.1.cls idx K'.1 ∈ gdT) (hrm : RMK K K' b b') (hcat : catS S0 ≤ 8) (hcl : Cl X K' [vR p, v1, v2, v3, v4, v5] (h.set q c) (fun r h' => Wp X K (pc + 3) L (pushR r S0) h' b' Q)) : Wp X K pc L (v5 :: v4 :: v3 :: v2 :: v1 :: vR p :: S0) (h.set q c) b Q := by
  obtain ⟨fs, h1, h2⟩ := hS.obj (c := c)
  exact wp_iv5 hd hm hl h1 hrm hcat hcl
end
end SAR
