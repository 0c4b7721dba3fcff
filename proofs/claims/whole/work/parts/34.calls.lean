/-! rows of calls and returns -/
section CALLR
variable {X : XS} {K : Kd} {pc : Nat} {L : List (Option AV)} {S : List AV} {h : AH} {b : Nat × Nat} {Q : Option AV → AH → Prop}
theorem wp_ret (hd : decode K.2.1 pc = .ok (.return_, 1)) (hr : K.2.2.2.1 = none) (hq : Q none h) : Wp X K pc L [] h b Q :=
  fun p l e R s m args below meth c D E A ad0 n0 Z C hz ad ca H locs cells slots ls hH hS hE hL hO hls hc hs =>
    hz ad ca h none H locs cells slots pc ls hH hS hE (by omega) (by omega) hq (fun _ q => by cases q) ⟨hr, hd⟩
theorem wp_iret {x : Int} (hd : decode K.2.1 pc = .ok (.ireturn, 1)) (hr : K.2.2.2.1 = some .int) (hq : Q (some (vI x)) h) : Wp X K pc L [vI x] h b Q :=
  fun p l e R s m args below meth c D E A ad0 n0 Z C hz ad ca H locs cells slots ls hH hS hE hL hO hls hc hs =>
    hz ad ca h (some (vI x)) H locs cells slots pc ls hH hS hE (by omega) (by omega) hq (fun _ q => by cases q; trivial) ⟨⟨.int, hr, rfl⟩, hd⟩
theorem wp_zret {x : Int} (hd : decode K.2.1 pc = .ok (.ireturn, 1)) (hr : K.2.2.2.1 = some .boolean) (hx : x = 0 ∨ x = 1) (hq : Q (some (vI x)) h) : Wp X K pc L [vI x] h b Q :=
  fun p l e R s m args below meth c D E A ad0 n0 Z C hz ad ca H locs cells slots ls hH hS hE hL hO hls hc hs =>
    hz ad ca h (some (vI x)) H locs cells slots pc ls hH hS hE (by omega) (by omega) hq (fun _ q => by cases q; trivial) ⟨⟨.boolean, hr, (fitF_bool hx E ad).1⟩, hd⟩
theorem wp_nret {x : Int} {ty : FieldType} (hd : decode K.2.1 pc = .ok (.ireturn, 1)) (hr : K.2.2.2.1 = some ty) (hx : narrow ty (.int (Int32.ofInt x)) = .int (Int32.ofInt x)) (hq : Q (some (vI x)) h) : Wp X K pc L [vI x] h b Q :=
  fun p l e R s m args below meth c D E A ad0 n0 Z C hz ad ca H locs cells slots ls hH hS hE hL hO hls hc hs =>
    hz ad ca h (some (vI x)) H locs cells slots pc ls hH hS hE (by omega) (by omega) hq (fun _ q => by cases q; trivial) ⟨⟨ty, hr, hx⟩, hd⟩
theorem wp_lret {x : Int} (hd : decode K.2.1 pc = .ok (.lreturn, 1)) (hr : K.2.2.2.1 = some .long) (hq : Q (some (vL x)) h) : Wp X K pc L [vL x] h b Q :=
  fun p l e R s m args below meth c D E A ad0 n0 Z C hz ad ca H locs cells slots ls hH hS hE hL hO hls hc hs =>
    hz ad ca h (some (vL x)) H locs cells slots pc ls hH hS hE (by omega) (by omega) hq (fun _ q => by cases q; trivial) ⟨hr, hd⟩
theorem wp_aret {v : Option Nat ⊕ Nat} {n : String} (hd : decode K.2.1 pc = .ok (.areturn, 1)) (hr : K.2.2.2.1 = some (.object n)) (hq : Q (some (Sum.inr (Sum.inr v))) h) : Wp X K pc L [Sum.inr (Sum.inr v)] h b Q :=
  fun p l e R s m args below meth c D E A ad0 n0 Z C hz ad ca H locs cells slots ls hH hS hE hL hO hls hc hs =>
    hz ad ca h (some (Sum.inr (Sum.inr v))) H locs cells slots pc ls hH hS hE (by omega) (by omega) hq (fun _ q => by cases q; exact okS_h hO) ⟨⟨n, hr⟩, hd⟩
/-- the locals at an entry -/
def entA : List AV → List (Option AV)
  | [] => []
  | v :: vs => if cat1 v then some v :: entA vs else some v :: none :: entA vs
def entL (As : List AV) (n : Nat) : List (Option AV) := entA As ++ List.replicate (n - (entA As).length) none
def slO (E ad : Nat → Nat) : Option AV → Slot
  | some v => .val (cvV E ad v)
  | none => .second
theorem cat2_ok {E ad : Nat → Nat} {v : AV} (h : ¬ cat1 v = true) : (cvV E ad v).category = 2 := by
  rcases v with z | z | o | k
  · exact absurd rfl h
  · rfl
  · exact absurd rfl h
  · exact absurd rfl h
theorem entA_sl (E ad : Nat → Nat) : ∀ As : List AV, lg_sl (As.map (cvV E ad)) = (entA As).map (slO E ad)
  | [] => rfl
  | v :: vs => by
    have ih := entA_sl E ad vs
    unfold lg_sl at ih ⊢
    rw [List.map_cons, List.flatMap_cons, ih, show entA (v :: vs) = (if cat1 v then some v :: entA vs else some v :: none :: entA vs) from rfl]
    by_cases e : cat1 v = true
    · rw [if_pos e, if_neg (by rw [cat1_ok e]; omega)]
      rfl
    · rw [if_neg e, if_pos (cat2_ok e)]
      rfl
theorem entL_LR {E ad : Nat → Nat} {As : List AV} {n : Nat} (hn : (entA As).length ≤ n) : LR E ad ((lg_sl (As.map (cvV E ad)) ++ List.replicate (n - (lg_sl (As.map (cvV E ad))).length) Slot.unset).toArray) n (entL As n) := by
  have hlen : (lg_sl (As.map (cvV E ad))).length = (entA As).length := by rw [entA_sl, List.length_map]
  have hv := lv_entry (As.map (cvV E ad)) (n := n) (by rw [hlen]; exact hn)
  refine ⟨⟨hv.1, hv.2.1⟩, fun i v hi => ?_⟩
  unfold entL at hi
  rw [List.getElem?_toArray]
  rcases Nat.lt_or_ge i (entA As).length with q | q
  · rw [List.getElem?_append_left q] at hi
    rw [List.getElem?_append_left (by rw [hlen]; exact q), entA_sl, List.getElem?_map, hi]
    rfl
  · rw [List.getElem?_append_right q] at hi
    rw [List.getElem?_replicate] at hi
    split at hi <;> cases hi
theorem entA_mem : ∀ {As : List AV} {i : Nat} {v : AV}, (entA As)[i]? = some (some v) → v ∈ As
  | [], i, v, hi => by cases hi
  | u :: us, i, v, hi => by
    unfold entA at hi
    split at hi
    · cases i with
      | zero => cases hi; exact List.mem_cons_self
      | succ j => exact List.mem_cons_of_mem _ (entA_mem (i := j) hi)
    · cases i with
      | zero => cases hi; exact List.mem_cons_self
      | succ j =>
        cases j with
        | zero => cases hi
        | succ k => exact List.mem_cons_of_mem _ (entA_mem (i := k) hi)
theorem entL_ok {n k : Nat} {As : List AV} (hA : okS k As) : okL k (entL As n) := fun i v hi => by
  unfold entL at hi
  rcases Nat.lt_or_ge i (entA As).length with q | q
  · rw [List.getElem?_append_left q] at hi
    exact hA v (entA_mem hi)
  · rw [List.getElem?_append_right q, List.getElem?_replicate] at hi
    split at hi <;> cases hi
/-- a method's contract out of a walk of its body -/
theorem cl_of {As : List AV} {L : List (Option AV)} (hy : plainName K.1.cls = true) (hn : (entA As).length ≤ K.2.2.1) (hL0 : entL As K.2.2.1 = L) (k : Wp X K 0 L [] h K.2.2.2.2.2 Q) : Cl X K As h Q := by
  subst hL0
  intro l D E A ad ca
  refine Met.ofW (cc := K.2.1) (maxL := K.2.2.1) (ret := K.2.2.2.1) hy rfl ?_
  intro p e s m args below meth c s₁ B hml hv
  obtain ⟨rfl, hH, hO, hK, hX, hA⟩ := hv
  have hts : ∀ w ∈ wsK K, w.before _ s = true := atoms_spec (ws := wsK K) B.pre
  have hown : s.vm.findClass K.1.cls = some m.cls := findClass_of_methodNamed B.named
  have hnm : meth.name = K.1.name := (name_of_methodNamed B.named B.method).1
  rw [lg_entry_eq]
  have C : Cx X K D E A p (headSpec (wsK K) (rmK K)).room s m (As.map (cvV E ad)).toArray meth c :=
    ⟨B.exec, B.bytes, hml, hown, fun w hw => hts w (List.mem_cons_of_mem _ hw), ⟨B.returns, B.notSynchronized, hnm⟩, hK, hX, hA, Nat.le_refl _, Nat.le_refl _⟩
  refine k p l e (headSpec (wsK K) (rmK K)).room s m _ below meth c D E A ad h.length _ C ?_ ad ca s.heap [] 0 0 _ hH va_S.rf ⟨Nat.le_refl _, fun _ _ => rfl⟩ (entL_ok hO) (fun _ q => by cases q) (entL_LR hn) (by rw [Nat.zero_add]; exact Nat.le_refl _) (by rw [Nat.zero_add]; exact Nat.le_refl _)
  intro ad' ca' h' r H locs cells slots pc ls hH' hS' hE' hc hs hq hok hrt
  refine W.widen (k := K.2.2.2.2.2.1) (n := K.2.2.2.2.2.2) hc hs ?_
  have post : ∀ t : State, t.heap = H → s.WarmedH t.vm → QcK D E A ad h Q (As.map (cvV E ad)).toArray s (.returned (r.map (cvV E ad'))) t := fun t ht hW =>
    ⟨⟨r, h', ad', ca', hq, rfl, by rw [ht]; exact hH'.moved hW.alike, hE', hok⟩, hS'.F ht⟩
  have hlk : meth.locks = false := B.notSynchronized
  rcases r with _ | r
  · exact W.vret B.exec B.bytes (B.returns.trans hrt.1) post hS'.2.2 hrt.2 hlk
  · rcases r with z | z | r
    · obtain ⟨⟨ty, h1, h2⟩, h3⟩ := hrt
      exact W.zret B.exec B.bytes (B.returns.trans h1) h2 post hS'.2.2 h3 hlk
    · exact W.lret B.exec B.bytes (B.returns.trans hrt.1) post hS'.2.2 hrt.2 hlk
    · obtain ⟨⟨n, h1⟩, h3⟩ := hrt
      refine W.aret B.exec B.bytes (B.returns.trans h1) (Or.inl ⟨n, rfl⟩) ?_ post hS'.2.2 h3 hlk
      rcases r with o | j
      · cases o with
        | none => exact Or.inl rfl
        | some a => exact Or.inr ⟨_, rfl⟩
      · exact Or.inr ⟨_, rfl⟩
theorem lw_good : ∀ w ∈ gdT, (w.onTables && w.keeps) = true ∨ ∃ ty, w = .arrayClass ty := by
  exact fun w hw => good_of_word (List.mem_filter.mp hw).2
/-- what is wanted of a method that is called -/
def MK (K' : Kd) (n : Nat) : Prop := Cond.code K'.1 K'.2.1 K'.2.2.1 K'.2.2.2.1 ∈ gdT ∧ Cond.initialized K'.1.cls ∈ gdT ∧ (K'.1.cls ≠ "java/lang/invoke/MethodHandle" ∧ K'.1.cls ≠ "java/lang/invoke/VarHandle" ∧ (parseMethodDescriptor K'.1.desc).map (fun d => d.parameters.length) = some n)
theorem wsK_good {K' : Kd} {n : Nat} (hm : MK K' n) : GoodIn gdT (wsK K') := fun w hw => by
  rcases List.mem_cons.mp hw with e | e
  · rw [e]; exact ⟨hm.1, lw_good _ hm.1⟩
  · exact ⟨e, lw_good _ e⟩
/-- room for a callee -/
def RMK (K K' : Kd) (b b' : Nat × Nat) : Prop := K'.2.2.2.2.1.1 + 1 ≤ K.2.2.2.2.1.1 ∧ 8 + (K'.2.2.1 + 11) + K'.2.2.2.2.1.2 ≤ K.2.2.2.2.1.2 ∧ K'.2.2.2.2.2.1 + b'.1 ≤ b.1 ∧ K'.2.2.2.2.2.2 + b'.2 ≤ b.2
def catS (S : List AV) : Nat := (S.map fun v => if cat1 v then 1 else 2).sum
theorem catS_ok (E ad : Nat → Nat) : ∀ S : List AV, ((S.map (cvV E ad)).map fun v => v.category).sum = catS S
  | [] => rfl
  | v :: vs => by
    have ih := catS_ok E ad vs
    unfold catS at ih ⊢
    rw [List.map_cons, List.map_cons, List.sum_cons, List.map_cons, List.sum_cons, ih]
    by_cases e : cat1 v = true
    · rw [if_pos e, cat1_ok e]
    · rw [if_neg e, cat2_ok e]
/-- what a call leaves on the stack -/
def pushR : Option AV → List AV → List AV
  | none, S => S
  | some v, S => v :: S
theorem pushR_eq (r : Option AV) (S : List AV) : pushR r S = r.toList ++ S := by cases r <;> rfl
section RUN
variable {p : Program} {l : Launch} {e : Env} {R : Room} {s : State} {m : MethodId} {args : Array Value} {below : List Frame} {meth : Method} {c : Code} {D : va_G} {E : Nat → Nat} {A : Nat → Prop} {ad0 : Nat → Nat} {n0 : Nat} {Z : State → Prop}
theorem wp_run {K' : Kd} {b' : Nat × Nat} {S0 : List AV} {st0 : List Value} {av : Array Value} {ad : Nat → Nat} {ca : Nat → ClassId} {H : Heap} {locs : List Loc} {cells slots : Nat} {ls : Array Slot}
    (C : Cx X K D E A p R s m args meth c)
    (hz : ∀ (ad : Nat → Nat) (ca : Nat → ClassId) (h' : AH) (r : Option AV) (H : Heap) (locs : List Loc) (cells slots pc : Nat) (ls : Array Slot), Hl D E A s ad ca h' H → va_S A s.heap H locs → Ex n0 ad0 ad h' → cells ≤ R.cells → slots ≤ R.slots → Q r h' → okO h'.length r → Rt K pc r → W p l e R s m args below meth c H locs cells slots Z (F0 m pc ls ((r.map (cvV E ad)).toList)))
    (hr : va_Run p l e R s m args below meth c H locs cells slots K'.2.2.2.2.2.1 K'.2.2.2.2.2.2 (F0 m pc ls st0) (S0.map (cvV E ad)) (QcK D E A ad h (fun r h' => Wp X K (pc + 3) L (pushR r S0) h' b' Q) av) A)
    (hS : va_S A s.heap H locs) (hE : Ex n0 ad0 ad h) (hL : okL h.length L) (hO : okS h.length S0) (hls : LR E ad ls K.2.2.1 L) (hc : cells + b.1 ≤ R.cells) (hs : slots + b.2 ≤ R.slots) (hb1 : K'.2.2.2.2.2.1 + b'.1 ≤ b.1) (hb2 : K'.2.2.2.2.2.2 + b'.2 ≤ b.2) :
    W p l e R s m args below meth c H locs cells slots Z (F0 m pc ls st0) := by
  intro T hT X0
  obtain ⟨v, st₀, t, T', Lc, h0, X', hLc, e1, e2, ⟨⟨r, h', ad', ca', hq, ho, hH', hE', hok⟩, hF⟩, st⟩ := hr T hT X0
  cases ho
  rw [pushR_eq] at hq
  have hal : s.vm.Alike T'.vm := X'.warmed.alike
  have hH1 : Hl D E A s ad' ca' h' T'.heap := by
    have := hH'.moved (U := s) (by rw [← e2]; exact hal.symm)
    rw [← e1] at this
    exact this
  have hS1 : va_S A s.heap T'.heap (locs ++ Lc) := by
    obtain ⟨z1, z2⟩ := hF
    rw [h0] at z1 z2
    refine ⟨Nat.le_trans hS.1 (by rw [e1]; exact z1), fun q h1 h2 => ?_, fun q hq => ?_⟩
    · rw [e1, z2 q (Nat.lt_of_lt_of_le h1 hS.1) h2]; exact hS.2.1 q h1 h2
    · rcases List.mem_append.mp hq with g | g
      · exact hS.2.2 q g
      · exact hLc q g
  have hE1 : Ex n0 ad0 ad' h' := ⟨Nat.le_trans hE.1 hE'.1, fun i hi => (hE'.2 i (Nat.lt_of_lt_of_le hi hE.1)).trans (hE.2 i hi)⟩
  have hL1 : okL h'.length L := fun i u hu => (hL i u hu).mono hE'.1
  have hag : ∀ v : AV, okV h.length v → cvV E ad' v = cvV E ad v := fun v hv => cvV_agree hE'.2 hv
  have hls1 : LR E ad' ls K.2.2.1 L := ⟨hls.1, fun i u hu => by rw [hag u (hL i u hu)]; exact hls.2 i u hu⟩
  have hO1 : okS h'.length (r.toList ++ S0) := fun u hu => by
    rcases List.mem_append.mp hu with g | g
    · cases r with
      | none => cases g
      | some x => rw [List.mem_singleton.mp g]; exact hok x rfl
    · exact (hO u g).mono hE'.1
  have kw := hq p l e R s m args below meth c D E A ad0 n0 Z C hz ad' ca' T'.heap (locs ++ Lc) (cells + K'.2.2.2.2.2.1) (slots + K'.2.2.2.2.2.2) ls hH1 hS1 hE1 hL1 hO1 hls1 (by omega) (by omega)
  obtain ⟨t2, a1, b1⟩ := kw T' rfl X'
  refine ⟨t2, st t2 ?_, b1⟩
  have ek : (r.toList ++ S0).map (cvV E ad') = (r.map (cvV E ad')).toList ++ S0.map (cvV E ad) := by
    rw [List.map_append]
    congr 1
    · cases r <;> rfl
    · exact List.map_congr_left fun u hu => hag u (hO u hu)
  rw [ek] at a1
  exact a1
end RUN
theorem Pc_blind {D : va_G} {E : Nat → Nat} {A : Nat → Prop} {ad : Nat → Nat} {ca : Nat → ClassId} {As : List AV} : FrameBlind (PcK X D E A ad ca As h) := fun a U g mk q => by
  obtain ⟨q0, q1, q2, q3, q4, q5⟩ := q
  exact ⟨q0, Hl.moved (U := U.calling g mk a) (Vm.Alike.refl U.vm) q1, q2, va_K.moved (u := U) (U := U.calling g mk a) (Vm.Alike.refl U.vm) q3, XF.same (s := U) rfl q4, q5⟩
end CALLR
