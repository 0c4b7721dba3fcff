/-! rows that write locals, read and write the heap -/
section HEAPR
variable {X : XS} {K : Kd} {pc : Nat} {L : List (Option AV)} {S : List AV} {h : AH} {b : Nat × Nat} {Q : Option AV → AH → Prop}
def killL (L : List (Option AV)) : Nat → List (Option AV)
  | 0 => L
  | j + 1 => match L[j]? with
    | some (some (Sum.inr (Sum.inl _))) => L.set j none
    | _ => L
def stL (L : List (Option AV)) (i : Nat) (v : AV) : List (Option AV) := (killL L i).set i (some v)
def stL2 (L : List (Option AV)) (i : Nat) (v : AV) : List (Option AV) := ((killL L i).set i (some v)).set (i + 1) none
theorem killL_at {L : List (Option AV)} {i j : Nat} {u : AV} (h : (killL L i)[j]? = some (some u)) : L[j]? = some (some u) ∧ (j + 1 = i → cat1 u = true) := by
  cases i with
  | zero => exact ⟨h, fun q => by omega⟩
  | succ k =>
    simp only [killL] at h
    split at h
    · rename_i z hz
      rw [List.getElem?_set] at h
      by_cases e : k = j
      · rw [if_pos e] at h
        split at h <;> cases h
      · rw [if_neg e] at h
        exact ⟨h, fun q => by omega⟩
    · rename_i hz
      refine ⟨h, fun q => ?_⟩
      have e : j = k := by omega
      subst e
      rcases u with z | z | o | n
      · rfl
      · exact absurd h (hz z)
      · rfl
      · rfl
theorem stL_at {L : List (Option AV)} {i j : Nat} {v u : AV} (h : (stL L i v)[j]? = some (some u)) : (j = i ∧ u = v) ∨ (j ≠ i ∧ L[j]? = some (some u) ∧ (j + 1 = i → cat1 u = true)) := by
  unfold stL at h
  rw [List.getElem?_set] at h
  by_cases e : i = j
  · rw [if_pos e] at h
    split at h
    · cases h; exact Or.inl ⟨e.symm, rfl⟩
    · cases h
  · rw [if_neg e] at h
    exact Or.inr ⟨fun q => e q.symm, killL_at h⟩
theorem stL2_at {L : List (Option AV)} {i j : Nat} {v u : AV} (h : (stL2 L i v)[j]? = some (some u)) : (j = i ∧ u = v) ∨ (j ≠ i ∧ j ≠ i + 1 ∧ L[j]? = some (some u) ∧ (j + 1 = i → cat1 u = true)) := by
  unfold stL2 at h
  rw [List.getElem?_set] at h
  by_cases e : i + 1 = j
  · rw [if_pos e] at h
    split at h <;> cases h
  · rw [if_neg e] at h
    rcases stL_at (L := L) (i := i) (v := v) h with q | ⟨q1, q2⟩
    · exact Or.inl q
    · exact Or.inr ⟨q1, fun z => e z.symm, q2⟩
def lvO (E ad : Nat → Nat) (L : List (Option AV)) : List (Nat × Value) := (List.range L.length).filterMap fun j => match L[j]? with
  | some (some u) => some (j, cvV E ad u)
  | _ => none
theorem lvO_mem {E ad : Nat → Nat} {L : List (Option AV)} {j : Nat} {u : AV} (h : L[j]? = some (some u)) : (j, cvV E ad u) ∈ lvO E ad L := by
  unfold lvO
  rw [List.mem_filterMap]
  refine ⟨j, ?_, by simp [h]⟩
  rw [List.mem_range]
  exact (List.getElem?_eq_some_iff.mp h).1
theorem LR.has {E ad : Nat → Nat} {ls : Array Slot} {nL : Nat} {L : List (Option AV)} (k : LR E ad ls nL L) : lv_has ls nL (lvO E ad L) := by
  refine ⟨k.1.1, k.1.2, fun q hq => ?_⟩
  unfold lvO at hq
  obtain ⟨j, -, hj⟩ := List.mem_filterMap.mp hq
  split at hj
  · rename_i u hu
    cases hj
    exact k.2 j u hu
  · cases hj
theorem cat1_no {E ad : Nat → Nat} {u : AV} (h : cat1 u = true) : ((cvV E ad u).category == 2) = false := by rw [cat1_ok h]; rfl
theorem LR.st {E ad : Nat → Nat} {ls' : Array Slot} {nL : Nat} {L : List (Option AV)} {i : Nat} {v : AV} (k : lv_has ls' nL ((i, cvV E ad v) :: (lvO E ad L).filter (fun q => !(q.1 == i) && !(q.1 + 1 == i && q.2.category == 2)))) : LR E ad ls' nL (stL L i v) := by
  refine ⟨⟨k.1, k.2.1⟩, fun j u hu => ?_⟩
  rcases stL_at hu with ⟨e1, e2⟩ | ⟨e1, e2, e3⟩
  · subst e1; subst e2
    exact k.2.2 _ List.mem_cons_self
  · refine k.2.2 (j, cvV E ad u) (List.mem_cons_of_mem _ (List.mem_filter.mpr ⟨lvO_mem e2, ?_⟩))
    simp only [Bool.and_eq_true, Bool.not_eq_true']
    refine ⟨by simpa using e1, ?_⟩
    by_cases e : j + 1 = i
    · rw [cat1_no (e3 e)]; simp
    · simp [e]
theorem LR.st2 {E ad : Nat → Nat} {ls' : Array Slot} {nL : Nat} {L : List (Option AV)} {i : Nat} {v : AV} (k : lv_has ls' nL ((i, cvV E ad v) :: (lvO E ad L).filter (fun q => !(q.1 == i) && (!(q.1 == i + 1) && !(q.1 + 1 == i && q.2.category == 2))))) : LR E ad ls' nL (stL2 L i v) := by
  refine ⟨⟨k.1, k.2.1⟩, fun j u hu => ?_⟩
  rcases stL2_at hu with ⟨e1, e2⟩ | ⟨e1, e0, e2, e3⟩
  · subst e1; subst e2
    exact k.2.2 _ List.mem_cons_self
  · refine k.2.2 (j, cvV E ad u) (List.mem_cons_of_mem _ (List.mem_filter.mpr ⟨lvO_mem e2, ?_⟩))
    simp only [Bool.and_eq_true, Bool.not_eq_true']
    refine ⟨by simpa using e1, by simpa using e0, ?_⟩
    by_cases e : j + 1 = i
    · rw [cat1_no (e3 e)]; simp
    · simp [e]
theorem okL.st {n : Nat} {L : List (Option AV)} {i : Nat} {v : AV} (k : okL n L) (hv : okV n v) : okL n (stL L i v) := fun j u hu => by
  rcases stL_at hu with ⟨-, e⟩ | ⟨-, e, -⟩
  · rw [e]; exact hv
  · exact k j u e
theorem okL.st2 {n : Nat} {L : List (Option AV)} {i : Nat} {v : AV} (k : okL n L) (hv : okV n v) : okL n (stL2 L i v) := fun j u hu => by
  rcases stL2_at hu with ⟨-, e⟩ | ⟨-, -, e, -⟩
  · rw [e]; exact hv
  · exact k j u e
theorem wp_istore {L' : List (Option AV)} {i : Nat} {x : Int} (hd : decode K.2.1 pc = .ok (.istore i, 2)) (hn : i < K.2.2.1) (hL' : stL L i (vI x) = L') (k : Wp X K (pc + 2) L' S h b Q) : Wp X K pc L (vI x :: S) h b Q :=
  fun p l e R s m args below meth c D E A ad0 n0 Z C hz ad ca H locs cells slots ls hH hS hE hL hO hl hc hs => by
    subst hL'
    exact lv_istore C.1 C.2.1 hd hl.has hn rfl (fun ls' hl' => k p l e R s m args below meth c D E A ad0 n0 Z C hz ad ca H locs cells slots ls' hH hS hE (hL.st (okS_h hO)) (okS_t hO) (LR.st hl') hc hs)
theorem wp_istore_n {L' : List (Option AV)} {i : Fin 4} {x : Int} (hd : decode K.2.1 pc = .ok (.istore_n i, 1)) (hn : (i : Nat) < K.2.2.1) (hL' : stL L i (vI x) = L') (k : Wp X K (pc + 1) L' S h b Q) : Wp X K pc L (vI x :: S) h b Q :=
  fun p l e R s m args below meth c D E A ad0 n0 Z C hz ad ca H locs cells slots ls hH hS hE hL hO hl hc hs => by
    subst hL'
    exact lv_istore_n C.1 C.2.1 hd rfl hl.has hn rfl (fun ls' hl' => k p l e R s m args below meth c D E A ad0 n0 Z C hz ad ca H locs cells slots ls' hH hS hE (hL.st (okS_h hO)) (okS_t hO) (LR.st hl') hc hs)
theorem wp_lstore {L' : List (Option AV)} {i : Nat} {x : Int} (hd : decode K.2.1 pc = .ok (.lstore i, 2)) (hn : i + 1 < K.2.2.1) (hL' : stL2 L i (vL x) = L') (k : Wp X K (pc + 2) L' S h b Q) : Wp X K pc L (vL x :: S) h b Q :=
  fun p l e R s m args below meth c D E A ad0 n0 Z C hz ad ca H locs cells slots ls hH hS hE hL hO hl hc hs => by
    subst hL'
    exact lv_lstore C.1 C.2.1 hd hl.has hn rfl (fun ls' hl' => k p l e R s m args below meth c D E A ad0 n0 Z C hz ad ca H locs cells slots ls' hH hS hE (hL.st2 (okS_h hO)) (okS_t hO) (LR.st2 hl') hc hs)
theorem wp_lstore_n {L' : List (Option AV)} {i : Fin 4} {x : Int} (hd : decode K.2.1 pc = .ok (.lstore_n i, 1)) (hn : (i : Nat) + 1 < K.2.2.1) (hL' : stL2 L i (vL x) = L') (k : Wp X K (pc + 1) L' S h b Q) : Wp X K pc L (vL x :: S) h b Q :=
  fun p l e R s m args below meth c D E A ad0 n0 Z C hz ad ca H locs cells slots ls hH hS hE hL hO hl hc hs => by
    subst hL'
    exact lv_lstore_n C.1 C.2.1 hd rfl hl.has hn rfl (fun ls' hl' => k p l e R s m args below meth c D E A ad0 n0 Z C hz ad ca H locs cells slots ls' hH hS hE (hL.st2 (okS_h hO)) (okS_t hO) (LR.st2 hl') hc hs)
theorem wp_astore_n {L' : List (Option AV)} {i : Fin 4} {j : Nat} (hd : decode K.2.1 pc = .ok (.astore_n i, 1)) (hn : (i : Nat) < K.2.2.1) (hL' : stL L i (vR j) = L') (k : Wp X K (pc + 1) L' S h b Q) : Wp X K pc L (vR j :: S) h b Q :=
  fun p l e R s m args below meth c D E A ad0 n0 Z C hz ad ca H locs cells slots ls hH hS hE hL hO hl hc hs => by
    subst hL'
    exact lv_astore_n C.1 C.2.1 hd rfl hl.has hn rfl (fun ls' hl' => k p l e R s m args below meth c D E A ad0 n0 Z C hz ad ca H locs cells slots ls' hH hS hE (hL.st (okS_h hO)) (okS_t hO) (LR.st hl') hc hs)
theorem wp_iinc {L' : List (Option AV)} {i : Nat} {n x : Int} (hd : decode K.2.1 pc = .ok (.iinc i n, 3)) (hi : L[i]? = some (some (vI x))) (hL' : stL L i (vI (x + n)) = L') (k : Wp X K (pc + 3) L' S h b Q) : Wp X K pc L S h b Q :=
  fun p l e R s m args below meth c D E A ad0 n0 Z C hz ad ca H locs cells slots ls hH hS hE hL hO hl hc hs => by
    subst hL'
    obtain ⟨q, hq⟩ := List.getElem?_of_mem (lvO_mem (E := E) (ad := ad) hi)
    have hlt : i < K.2.2.1 := by rw [← hl.1.1]; exact lv_lt (hl.2 i _ hi)
    exact lv_iinc (v := Int32.ofInt (x + n)) C.1 C.2.1 hd hl.has hq (Int32.ofInt_add x n).symm hlt rfl (fun ls' hl' => k p l e R s m args below meth c D E A ad0 n0 Z C hz ad ca H locs cells slots ls' hH hS hE (hL.st trivial) hO (LR.st hl') hc hs)
/-- f, but x at j -/
def ud (f : Int → Int) (j x : Int) : Int → Int := fun k => if k = j then x else f k
def udO (f : Int → Option Nat) (j : Int) (x : Option Nat) : Int → Option Nat := fun k => if k = j then x else f k
theorem ud_32 {f : Int → Int} {j x : Int} {q : Nat} (hq : (q : Int) = j) : upd (fun i : Nat => Int32.ofInt (f i)) q (Int32.ofInt x) = fun i : Nat => Int32.ofInt (ud f j x i) := by
  funext i
  unfold upd ud
  by_cases e : i = q
  · rw [if_pos e, if_pos (by omega)]
  · rw [if_neg e, if_neg (by omega)]
theorem ud_64 {f : Int → Int} {j x : Int} {q : Nat} (hq : (q : Int) = j) : vp_updL (fun i : Nat => Int64.ofInt (f i)) q (Int64.ofInt x) = fun i : Nat => Int64.ofInt (ud f j x i) := by
  funext i
  unfold vp_updL ud
  by_cases e : i = q
  · rw [if_pos e, if_pos (by omega)]
  · rw [if_neg e, if_neg (by omega)]
theorem ud_O {ad : Nat → Nat} {f : Int → Option Nat} {j : Int} {x : Option Nat} {q : Nat} (hq : (q : Int) = j) : va_up (fun i : Nat => (f i).map ad) q (x.map ad) = fun i : Nat => (udO f j x i).map ad := by
  funext i
  unfold va_up udO
  by_cases e : i = q
  · rw [if_pos e, if_pos (by omega)]
  · rw [if_neg e, if_neg (by omega)]
/-- a cell changes: what is known of the heap then -/
theorem Hl.set {D : va_G} {E : Nat → Nat} {A : Nat → Prop} {s : State} {ad : Nat → Nat} {ca : Nat → ClassId} {H H1 : Heap} {i : Nat} {c c' : AC} (k : Hl D E A s ad ca h H) (hi : h[i]? = some c) (ht : acT c' = acT c) (hok : okC h.length c') (hP : va_P D vwCl ((wsO E ad ca h).set i (ad i, cvC E ad (ca i) c')) H1) (hD : va_D A ((wsO E ad ca h).set i (ad i, cvC E ad (ca i) c'))) : Hl D E A s ad ca (h.set i c') H1 := by
  rw [wsO_set] at hP hD
  refine ⟨hP, hD, fun j x ty hj hx => ?_, fun x hx => ?_⟩
  · rw [List.getElem?_set] at hj
    by_cases e : i = j
    · rw [if_pos e] at hj
      split at hj
      · cases hj
        exact k.2.2.1 j c ty (e ▸ hi) (ht ▸ hx)
      · cases hj
    · rw [if_neg e] at hj
      exact k.2.2.1 j x ty hj hx
  · rw [List.length_set]
    rcases List.mem_or_eq_of_mem_set hx with q | q
    · exact k.2.2.2 x q
    · rw [q]; exact hok
theorem Ex.set {n0 : Nat} {ad0 ad : Nat → Nat} {i : Nat} {c : AC} (k : Ex n0 ad0 ad h) : Ex n0 ad0 ad (h.set i c) := ⟨by rw [List.length_set]; exact k.1, k.2⟩
theorem K1 {D : va_G} {s : State} {cA : ClassId} {ty : FieldType} (hK : va_K D vwCl [] s) (hT : ArrOfT s cA ty ∧ va_RA s cA ty) : va_K D vwCl [(cA, ty)] s :=
  ⟨hK.1, fun k q hk => by
    cases k with
    | zero => cases hk; exact hT
    | succ j => cases hk⟩
end HEAPR
