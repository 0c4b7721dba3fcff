/-! rows for walks over several cells, by their places -/
section HW
variable {X : XS} {K : Kd} {pc : Nat} {L : List (Option AV)} {S : List AV} {h : AH} {b : Nat × Nat} {Q : Option AV → AH → Prop}
theorem gs_eq {i : Nat} {c : AC} (hl : i < h.length) : (h.set i c)[i]? = some c := by simp [hl]
theorem gs_ne {i j : Nat} {c c' : AC} (hij : i ≠ j) (hk : h[j]? = some c') : (h.set i c)[j]? = some c' := by rw [List.getElem?_set_ne hij]; exact hk
theorem gs_lt {i : Nat} {c : AC} (hk : h[i]? = some c) : i < h.length := (List.getElem?_eq_some_iff.mp hk).1
theorem gs_l {i j : Nat} {c : AC} (hl : j < h.length) : j < (h.set i c).length := by rw [List.length_set]; exact hl
theorem set_same {i : Nat} {c : AC} (hk : h[i]? = some c) : h.set i c = h := by
  apply List.ext_getElem?
  intro j
  rw [List.getElem?_set]
  by_cases e : i = j
  · subst e
    rw [if_pos rfl, if_pos (gs_lt hk), hk]
  · rw [if_neg e]
theorem sa_of {i : Nat} {c : AC} {K' : Kd} {As : List AV} (hk : h[i]? = some c) (hc : Cl X K' As (h.set i c) Q) : Cl X K' As h Q := by
  rw [set_same hk] at hc
  exact hc
theorem sa_mk {ci p q : Nat} {fs : List AV} {c : AC} (hpq : p ≠ q) (h1 : h[p]? = some (oO ci fs)) (h2 : fs[0]? = some (vR q)) (h3 : h[q]? = some c) : SA ci p q h := ⟨hpq, gs_lt h3, fs, h1, h2⟩
theorem wp_putv {i ci k idx : Nat} {ty : FieldType} {fs fs' : List AV} {v : AV} (hd : decode K.2.1 pc = .ok (.putfield idx, 3)) (hl : FP K.1 idx ci k ty) (hi : h[i]? = some (oO ci fs)) (hk : k < fs.length) (hv : fitF ty v) (hf : fs.set k v = fs') (kk : Wp X K (pc + 3) L S (h.set i (oO ci fs')) b Q) : Wp X K pc L (v :: vR i :: S) h b Q := by
  subst hf
  exact wp_putf hd hl hi hk hv kk
theorem wp_iav {i n : Nat} {f : Int → Int} {j v : Int} (hd : decode K.2.1 pc = .ok (.iaload, 1)) (hi : h[i]? = some (oI n f)) (hn : n < 2147483648) (h0 : 0 ≤ j ∧ j < n) (hv : f j = v) (kk : Wp X K (pc + 1) L (vI v :: S) h b Q) : Wp X K pc L (vI j :: vR i :: S) h b Q := by
  subst hv
  exact wp_iald hd hi hn h0.1 h0.2 kk
theorem wp_lav {i n : Nat} {f : Int → Int} {j v : Int} (hd : decode K.2.1 pc = .ok (.laload, 1)) (hi : h[i]? = some (oL n f)) (hn : n < 2147483648) (h0 : 0 ≤ j ∧ j < n) (hv : f j = v) (kk : Wp X K (pc + 1) L (vL v :: S) h b Q) : Wp X K pc L (vI j :: vR i :: S) h b Q := by
  subst hv
  exact wp_lald hd hi hn h0.1 h0.2 kk
theorem wp_zav {i n : Nat} {f : Int → Int} {j v : Int} (hd : decode K.2.1 pc = .ok (.baload, 1)) (hi : h[i]? = some (oZ n f)) (hn : n < 2147483648) (h0 : 0 ≤ j ∧ j < n) (hv : f j = v) (kk : Wp X K (pc + 1) L (vI v :: S) h b Q) : Wp X K pc L (vI j :: vR i :: S) h b Q := by
  subst hv
  exact wp_zald hd hi hn h0.1 h0.2 kk
theorem wp_isv {i n : Nat} {f : Int → Int} {j x : Int} (hd : decode K.2.1 pc = .ok (.iastore, 1)) (hi : h[i]? = some (oI n f)) (hn : n < 2147483648) (h0 : 0 ≤ j ∧ j < n) (kk : Wp X K (pc + 1) L S (h.set i (oI n (ud f j x))) b Q) : Wp X K pc L (vI x :: vI j :: vR i :: S) h b Q := wp_iast hd hi hn h0.1 h0.2 kk
theorem wp_lsv {i n : Nat} {f : Int → Int} {j x : Int} (hd : decode K.2.1 pc = .ok (.lastore, 1)) (hi : h[i]? = some (oL n f)) (hn : n < 2147483648) (h0 : 0 ≤ j ∧ j < n) (kk : Wp X K (pc + 1) L S (h.set i (oL n (ud f j x))) b Q) : Wp X K pc L (vL x :: vI j :: vR i :: S) h b Q := wp_last hd hi hn h0.1 h0.2 kk
theorem wp_zsv {i n : Nat} {f : Int → Int} {j x : Int} (hd : decode K.2.1 pc = .ok (.bastore, 1)) (hi : h[i]? = some (oZ n f)) (hn : n < 2147483648) (h0 : 0 ≤ j ∧ j < n) (hx : x = 0 ∨ x = 1) (kk : Wp X K (pc + 1) L S (h.set i (oZ n (ud f j x))) b Q) : Wp X K pc L (vI x :: vI j :: vR i :: S) h b Q := wp_zast hd hi hn h0.1 h0.2 hx kk
/-- the reference's object: place 51, its rows at 52 to 69 -/
def mF (dn km ln at_ ft ac mn om fw mo un ik : Int) : List AV :=
  [vR 52, vR 53, vI dn, vI km, vR 54, vI ln, vI at_, vI ft, vR 55, vR 56, vR 57, vR 58, vR 59, vR 60, vR 61, vR 62, vR 63, vI ac, vI mn, vI om, vI fw, vI mo, vI un, vR 64, vR 65, vR 66, vR 67, vR 68, vR 69, vI ik]
/-- the reference's state, as the heap holds it: row, history (its rows, how many, till where), tape, plans, shelves, image -/
def MV (h : AH) (g Kp : Int → Int) (dn km : Int) (T : Int → Int) (ln : Int) (P PS R Z I : Int → Int) (ik : Int) : Prop :=
  (∃ at_ ft ac mn om fw mo un : Int, h[51]? = some (oO 7 (mF dn km ln at_ ft ac mn om fw mo un ik))) ∧
  h[52]? = some (oI 1014 g) ∧ h[53]? = some (oI 31434 Kp) ∧ h[54]? = some (oI 160 T) ∧ (∃ f, h[55]? = some (oI 15 f)) ∧ h[56]? = some (oI 90 P) ∧ h[57]? = some (oI 6 PS) ∧
  (∃ f, h[59]? = some (oI 1014 f)) ∧ (∃ f, h[60]? = some (oI 8 f)) ∧ (∃ f, h[61]? = some (oI 8 f)) ∧ (∃ f, h[62]? = some (oI 6 f)) ∧ (∃ f, h[63]? = some (oZ 1000 f)) ∧ (∃ f, h[64]? = some (oZ 6 f)) ∧ (∃ f, h[65]? = some (oZ 6 f)) ∧ (∃ f, h[66]? = some (oZ 10 f)) ∧
  h[67]? = some (oL 160 R) ∧ h[68]? = some (oI 4 Z) ∧ h[69]? = some (oI 1014 I) ∧ (∃ f, h[58]? = some (oL 8 f) ∧ f 0 = 7348 ∧ f 1 = 409067 ∧ f 2 = 206220 ∧ f 3 = 24716933 ∧ f 4 = 1589657 ∧ f 5 = 664683 ∧ f 6 = 114052 ∧ f 7 = 755277)
/-- only the reference's cells have changed -/
def FRm (h h' : AH) : Prop := h'.length = h.length ∧ ∀ i, (i < 51 ∨ 70 ≤ i) → h'[i]? = h[i]?
theorem FRm.rf : FRm h h := ⟨rfl, fun _ _ => rfl⟩
theorem FRm.tr {h1 h2 : AH} (a : FRm h h1) (c : FRm h1 h2) : FRm h h2 := ⟨c.1.trans a.1, fun i hi => (c.2 i hi).trans (a.2 i hi)⟩
theorem FRm.st {i : Nat} {c : AC} (hi : 51 ≤ i ∧ i < 70) : FRm h (h.set i c) := ⟨List.length_set, fun j hj => List.getElem?_set_ne (by omega)⟩
end HW
