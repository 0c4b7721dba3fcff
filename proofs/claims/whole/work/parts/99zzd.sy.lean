/-! the law from its entry: what there is at the start is what the walk wants -/
section SY_
theorem kn_all {s : State} {args : Array Value} (hts : ∀ w ∈ lw_tbl, w.before args s = true) : ∃ D : va_G, va_K D vwCl [] s := by
  have hg : ∀ w ∈ gdT, w.before args s = true := fun w hw => hts w (List.mem_filter.mp hw).1
  have h : ∀ c : Nat, ∃ d : ClassId × (Nat → Nat), ∀ q : vw_C, vwCl[c]? = some q → u_Kn s q.1 q.2.1 q.2.2 d.1 d.2 := fun c => match c with
    | 0 => by
      obtain ⟨cC, iS, q⟩ := u_known (n := 4) hg gnX0 (hg _ (tm1_3 (List.mem_of_getElem? (i := 0) rfl) rfl))
      exact ⟨(cC, iS), fun q0 h => by cases h; exact q⟩
    | 1 => by
      obtain ⟨cC, iS, q⟩ := u_known (n := 10) hg gnX1 (hg _ (tm1_6 (List.mem_of_getElem? (i := 9) rfl) rfl))
      exact ⟨(cC, iS), fun q0 h => by cases h; exact q⟩
    | 2 => by
      obtain ⟨cC, iS, q⟩ := u_known (n := 4) hg gnX2 (hg _ (tm1_10 (List.mem_of_getElem? (i := 1) rfl) rfl))
      exact ⟨(cC, iS), fun q0 h => by cases h; exact q⟩
    | 3 => by
      obtain ⟨cC, iS, q⟩ := u_known (n := 5) hg gnX3 (hg _ (tm1_5 (List.mem_of_getElem? (i := 3) rfl) rfl))
      exact ⟨(cC, iS), fun q0 h => by cases h; exact q⟩
    | 4 => by
      obtain ⟨cC, iS, q⟩ := u_known (n := 3) hg gnX4 (hg _ (tm1_8 (List.mem_of_getElem? (i := 15) rfl) rfl))
      exact ⟨(cC, iS), fun q0 h => by cases h; exact q⟩
    | 5 => by
      obtain ⟨cC, iS, q⟩ := u_known (n := 1) hg gnX5 (hg _ (tm1_1 (List.mem_of_getElem? (i := 11) rfl) rfl))
      exact ⟨(cC, iS), fun q0 h => by cases h; exact q⟩
    | 6 => by
      obtain ⟨cC, iS, q⟩ := u_known (n := 11) hg gnX6 (hg _ (tm1_1 (List.mem_of_getElem? (i := 3) rfl) rfl))
      exact ⟨(cC, iS), fun q0 h => by cases h; exact q⟩
    | 7 => by
      obtain ⟨cC, iS, q⟩ := u_known (n := 30) hg gnX7 (hg _ (tm4_12 (List.mem_of_getElem? (i := 12) rfl) rfl))
      exact ⟨(cC, iS), fun q0 h => by cases h; exact q⟩
    | c + 8 => ⟨(0, fun _ => 0), fun q h => by cases h⟩
  obtain ⟨D, hD⟩ := Classical.axiomOfChoice h
  exact ⟨(fun c => (D c).1, fun c => (D c).2), hD, fun k q hk => by cases hk⟩
theorem xf_all {s : State} {b L : Nat} {xs : Nat → Int32} (hts : ∀ w ∈ lw_tbl, w.before #[Value.ref b] s = true) (hs : ∀ w ∈ flatC (Jvm.Cond.and given_1 narrow_1), w.before #[Value.ref b] s = true) (hX : va_X b L xs s s.heap) (hbl : b < s.heap.size) : ∃ E : Nat → Nat, E 30 = b ∧ XF (L, fun i => (xs i.toNat).toInt) E (fun q => s.heap.size ≤ q) s s.heap := by
  obtain ⟨t0, z0, a0⟩ := st_0 hs hts
  obtain ⟨t1, z1, a1⟩ := st_1 hs hts
  obtain ⟨t2, z2, a2⟩ := st_2 hs hts
  obtain ⟨t3, z3, a3⟩ := st_3 hs hts
  obtain ⟨t4, z4, a4⟩ := st_4 hs hts
  obtain ⟨t5, z5, a5⟩ := st_5 hs hts
  obtain ⟨adK, adV, hS, hev⟩ := st_K hs
  obtain ⟨E, hE⟩ : ∃ E : Nat → Nat, E = fun n => if n < 10 then [t0, t1, t2, t3, t4, t5].getD n 0 else if n < 20 then adK (n - 10) else if n < 30 then adV (n - 20) else b := ⟨_, rfl⟩
  have eK : ∀ k, k < 8 → E (10 + k) = adK k := fun k hk => by
    rw [hE]
    show (if 10 + k < 10 then _ else if 10 + k < 20 then adK (10 + k - 10) else _) = _
    rw [if_neg (by omega), if_pos (by omega), Nat.add_sub_cancel_left]
  have eV : ∀ k, k < 8 → E (20 + k) = adV k := fun k hk => by
    rw [hE]
    show (if 20 + k < 10 then _ else if 20 + k < 20 then _ else if 20 + k < 30 then adV (20 + k - 20) else _) = _
    rw [if_neg (by omega), if_neg (by omega), if_pos (by omega), Nat.add_sub_cancel_left]
  have eb : E 30 = b := by rw [hE]; rfl
  have e0 : E 0 = t0 := by rw [hE]; rfl
  have e1 : E 1 = t1 := by rw [hE]; rfl
  have e2 : E 2 = t2 := by rw [hE]; rfl
  have e3 : E 3 = t3 := by rw [hE]; rfl
  have e4 : E 4 = t4 := by rw [hE]; rfl
  have e5 : E 5 = t5 := by rw [hE]; rfl
  clear hE
  refine ⟨E, eb, fun j hj => ?_, st_C hs hts, fun k hk => ?_, ⟨fun i hi => ?_, fun i j hi hj h => ?_⟩, ?_, st_F hs hts, st_N hts⟩
  · match j, hj with
    | 0, _ => rw [e0]; exact ⟨z0, a0⟩
    | 1, _ => rw [e1]; exact ⟨z1, a1⟩
    | 2, _ => rw [e2]; exact ⟨z2, a2⟩
    | 3, _ => rw [e3]; exact ⟨z3, a3⟩
    | 4, _ => rw [e4]; exact ⟨z4, a4⟩
    | 5, _ => rw [e5]; exact ⟨z5, a5⟩
  · rw [eK k hk]
    exact vk_R.of (st_R hts k hk) (hev k hk)
  · have q := hS.1 i hi
    rw [← eK i hi, ← eV i hi] at q
    exact q
  · have h' : E (10 + i) = E (10 + j) := h
    rw [eK i hi, eK j hj] at h'
    exact hS.2 i j hi hj h'
  · rw [eb]
    obtain ⟨scr, x1, x2, x3, x4, x5⟩ := hX
    refine ⟨scr, x1, x2, x3, Nat.le_of_eq x4.symm, by rw [x4], fun j hj => ?_, fun q => Nat.not_le.mpr hbl q⟩
    rw [x5 j hj]
    show _ = some (Value.int (Int32.ofInt (xs ((j : Int)).toNat).toInt))
    rw [Int32.ofInt_toInt, Int.toNat_natCast]
theorem law_W {p : Program} {e : Env} {s : State} {m : MethodId} {below : List Frame} {meth : Method} {c : Code} (l : Launch) {b L : Nat} {xs : Nat → Int32} {Z : State → Prop} (hL : L ≤ 2560) (hx : p.tables.exec = Jvm.exec) (hc : c.code = code) (hret : meth.sig.returnType = ret) (hml : c.maxLocals = 4) (hown : s.vm.findClass "LookAsideCacheLaw" = some m.cls) (hts : ∀ w ∈ lw_tbl, w.before #[Value.ref b] s = true) (hX : va_X b L xs s s.heap) (hbl : b < s.heap.size) (hlk : meth.locks = false) (hgv : (Jvm.Cond.and given_1 narrow_1).before #[Value.ref b] s = true)
    (hend : ∀ (pc : Nat) (H : Heap) (ls : Array Slot), decode code pc = .ok (.ireturn, 1) → W p l e room_1 s m #[Value.ref b] below meth c H [] 600000 7302249 Z (F0 m pc ls [.int 1])) : W p l e room_1 s m #[Value.ref b] below meth c s.heap [] 0 0 Z (entryFrame m ([Value.ref b] : List Value).toArray 4) := by
  have hs := flat_of_before _ hgv
  obtain ⟨D, hD⟩ := kn_all hts
  obtain ⟨E, eb, hXF⟩ := xf_all hts hs hX hbl
  have C : Cx (L, fun i => (xs i.toNat).toInt) (kLn meth.name) D E (fun q => s.heap.size ≤ q) p room_1 s m #[Value.ref b] meth c :=
    ⟨hx, hc, hml, hown, fun w hw => hts w (List.mem_filter.mp hw).1, ⟨hret, hlk, rfl⟩, hD, hXF, fun q h => h, Nat.le_refl _, Nat.le_refl _⟩
  have k := wp_law (X := (L, fun i => (xs i.toNat).toInt)) (nm := meth.name) hL (fun j => r32_i _)
  rw [lg_entry_eq]
  have hl := entL_LR (E := E) (ad := fun _ => 0) (As := [vX 30]) (n := 4) (by decide)
  have ee : ([vX 30] : List AV).map (cvV E (fun _ => 0)) = [Value.ref b] := by
    show [Value.ref (E 30)] = _
    rw [eb]
  rw [ee] at hl
  have hok0 : okS 0 [vX 30] := fun v hv => by
    rcases List.mem_cons.mp hv with q | q
    · rw [q]; trivial
    · cases q
  have hL0 : okL 0 [some (vX 30), none, none, none] := entL_ok (n := 4) hok0
  refine k p l e room_1 s m #[Value.ref b] below meth c D E _ (fun _ => 0) 0 Z C ?_ (fun _ => 0) (fun _ => 0) s.heap [] 0 0 _ ⟨fun k q h => (by cases h), ⟨fun i j p q h => (by cases h), fun k q h => (by cases h)⟩, fun i c ty h => (by cases h), fun c h => (by cases h)⟩ va_S.rf ⟨Nat.le_refl _, fun _ _ => rfl⟩ hL0 (fun _ q => by cases q) hl (Nat.le_refl _) (Nat.le_refl _)
  intro ad ca h' r H locs cells slots pc ls hH hS hE hc' hs' hq hok hrt
  subst hq
  exact W.widen hc' hs' (va_forget (fun q hq => hS.2.2 q hq) (hend pc H ls hrt.2))
end SY_
