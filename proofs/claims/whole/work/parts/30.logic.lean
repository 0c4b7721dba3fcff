/-! A LOGIC OVER THE MACHINE. Values, cells and heaps are told by places (small numbers) and mathematical ints; 'Wp' says that the machine, at a frame that such a state tells, comes to an end that Q tells. -/
/-- a value: an int, a long, a reference to a place of the heap or null, a reference to something that is there from the start (by its number) -/
abbrev AV : Type := Int ⊕ (Int ⊕ (Option Nat ⊕ Nat))
abbrev vI (z : Int) : AV := Sum.inl z
abbrev vL (z : Int) : AV := Sum.inr (Sum.inl z)
abbrev vO (o : Option Nat) : AV := Sum.inr (Sum.inr (Sum.inl o))
abbrev vR (i : Nat) : AV := Sum.inr (Sum.inr (Sum.inl (some i)))
abbrev vN : AV := Sum.inr (Sum.inr (Sum.inl none))
abbrev vX (k : Nat) : AV := Sum.inr (Sum.inr (Sum.inr k))
/-- a cell: an array of ints, of longs, of booleans, of references (its kind first), an object (its class' number, its fields) -/
abbrev AC : Type := (Nat × (Int → Int)) ⊕ ((Nat × (Int → Int)) ⊕ ((Nat × (Int → Int)) ⊕ ((Nat × Nat × (Int → Option Nat)) ⊕ (Nat × List AV))))
abbrev oI (n : Nat) (f : Int → Int) : AC := Sum.inl (n, f)
abbrev oL (n : Nat) (f : Int → Int) : AC := Sum.inr (Sum.inl (n, f))
abbrev oZ (n : Nat) (f : Int → Int) : AC := Sum.inr (Sum.inr (Sum.inl (n, f)))
abbrev oR (t n : Nat) (f : Int → Option Nat) : AC := Sum.inr (Sum.inr (Sum.inr (Sum.inl (t, n, f))))
abbrev oO (ci : Nat) (fs : List AV) : AC := Sum.inr (Sum.inr (Sum.inr (Sum.inr (ci, fs))))
abbrev AH : Type := List AC
def cvV (E ad : Nat → Nat) : AV → Value
  | Sum.inl z => .int (Int32.ofInt z)
  | Sum.inr (Sum.inl z) => .long (Int64.ofInt z)
  | Sum.inr (Sum.inr (Sum.inl o)) => va_rf (o.map ad)
  | Sum.inr (Sum.inr (Sum.inr k)) => .ref (E k)
def cvC (E ad : Nat → Nat) (cA : ClassId) : AC → va_E
  | Sum.inl (n, f) => .inl (cA, n, .inl (fun i => Int32.ofInt (f i)))
  | Sum.inr (Sum.inl (n, f)) => .inl (cA, n, .inr (.inl (fun i => Int64.ofInt (f i))))
  | Sum.inr (Sum.inr (Sum.inl (n, f))) => .inl (cA, n, .inl (fun i => Int32.ofInt (f i)))
  | Sum.inr (Sum.inr (Sum.inr (Sum.inl (_, n, f)))) => .inl (cA, n, .inr (.inr (.inr (.inr (fun i => (f i).map ad)))))
  | Sum.inr (Sum.inr (Sum.inr (Sum.inr (ci, fs)))) => .inr (ci, fs.map (cvV E ad))
/-- what an array of references of a kind holds -/
def tyR : Nat → FieldType
  | 0 => .object "LookAsideCache$Plan"
  | 1 => .array .int
  | _ => .array .long
def acT : AC → Option FieldType
  | Sum.inl _ => some .int
  | Sum.inr (Sum.inl _) => some .long
  | Sum.inr (Sum.inr (Sum.inl _)) => some .boolean
  | Sum.inr (Sum.inr (Sum.inr (Sum.inl (t, _, _)))) => some (tyR t)
  | Sum.inr (Sum.inr (Sum.inr (Sum.inr _))) => none
def okV (n : Nat) : AV → Prop
  | Sum.inr (Sum.inr (Sum.inl (some i))) => i < n
  | _ => True
def okC (n : Nat) : AC → Prop
  | Sum.inr (Sum.inr (Sum.inr (Sum.inl (_, _, f)))) => ∀ z j, f z = some j → j < n
  | Sum.inr (Sum.inr (Sum.inr (Sum.inr (_, fs)))) => ∀ v ∈ fs, okV n v
  | _ => True
def wsO (E ad : Nat → Nat) (ca : Nat → ClassId) (h : AH) : va_W := h.mapIdx fun i c => (ad i, cvC E ad (ca i) c)
theorem okV.mono {n m : Nat} (hm : n ≤ m) {v : AV} (h : okV n v) : okV m v := by
  unfold okV at *
  split
  · exact Nat.lt_of_lt_of_le h hm
  · trivial
theorem okC.mono {n m : Nat} (hm : n ≤ m) {c : AC} (h : okC n c) : okC m c := by
  unfold okC at *
  split
  · exact fun z j e => Nat.lt_of_lt_of_le (h z j e) hm
  · exact fun v hv => (h v hv).mono hm
  · trivial
theorem cvV_agree {E ad ad' : Nat → Nat} {n : Nat} (ha : ∀ i, i < n → ad' i = ad i) {v : AV} (h : okV n v) : cvV E ad' v = cvV E ad v := by
  unfold okV at h
  rcases v with z | z | o | k
  · rfl
  · rfl
  · cases o with
    | none => rfl
    | some i => show va_rf (some (ad' i)) = va_rf (some (ad i)); rw [ha i h]
  · rfl
theorem cvC_agree {E ad ad' : Nat → Nat} {n : Nat} (ha : ∀ i, i < n → ad' i = ad i) {cA : ClassId} {c : AC} (h : okC n c) : cvC E ad' cA c = cvC E ad cA c := by
  unfold okC at h
  rcases c with c | c | c | c | c
  · rfl
  · rfl
  · rfl
  · obtain ⟨t, k, f⟩ := c
    show Sum.inl _ = Sum.inl _
    have e : (fun i : Nat => (f i).map ad') = fun i : Nat => (f i).map ad := by
      funext i
      cases hf : f i with
      | none => rfl
      | some j => show some (ad' j) = some (ad j); rw [ha j (h _ j hf)]
    rw [e]
  · obtain ⟨ci, fs⟩ := c
    show Sum.inr _ = Sum.inr _
    have e : fs.map (cvV E ad') = fs.map (cvV E ad) := List.map_congr_left fun v hv => cvV_agree ha (h v hv)
    rw [e]
theorem wsO_get {E ad : Nat → Nat} {ca : Nat → ClassId} {h : AH} {i : Nat} {c : AC} (hc : h[i]? = some c) : (wsO E ad ca h)[i]? = some (ad i, cvC E ad (ca i) c) := by
  simp [wsO, List.getElem?_mapIdx, hc]
theorem wsO_set {E ad : Nat → Nat} {ca : Nat → ClassId} {h : AH} {i : Nat} {c : AC} : (wsO E ad ca h).set i (ad i, cvC E ad (ca i) c) = wsO E ad ca (h.set i c) := by
  apply List.ext_getElem?
  intro j
  simp only [wsO, List.getElem?_set, List.getElem?_mapIdx, List.length_mapIdx]
  by_cases e : i = j
  · subst e
    by_cases hl : i < h.length <;> simp [hl]
  · simp [e]
theorem wsO_push {E ad : Nat → Nat} {ca : Nat → ClassId} {h : AH} {q : Nat} {cq : ClassId} {c : AC} (hok : ∀ c ∈ h, okC h.length c) (hc : okC h.length c) : wsO E ad ca h ++ [(q, cvC E ad cq c)] = wsO E (va_up ad h.length q) (va_up ca h.length cq) (h ++ [c]) := by
  have ha : ∀ i, i < h.length → va_up ad h.length q i = ad i := fun i hi => if_neg (Nat.ne_of_lt hi)
  have hb : ∀ i, i < h.length → va_up ca h.length cq i = ca i := fun i hi => if_neg (Nat.ne_of_lt hi)
  apply List.ext_getElem?
  intro j
  rcases Nat.lt_trichotomy j h.length with e | e | e
  · rw [List.getElem?_append_left (by simpa [wsO] using e)]
    obtain ⟨x, hx⟩ : ∃ x, h[j]? = some x := ⟨h[j], by simp [e]⟩
    rw [wsO_get hx, wsO_get (c := x) (by rw [List.getElem?_append_left e]; exact hx), ha j e, hb j e, cvC_agree ha (hok x (List.mem_of_getElem? hx))]
  · subst e
    rw [List.getElem?_append_right (by simp [wsO])]
    rw [wsO_get (c := c) (by simp)]
    simp [wsO, va_up, cvC_agree ha hc]
  · rw [List.getElem?_append_right (by simpa [wsO] using Nat.le_of_lt e)]
    have e2 : (wsO E ad ca h).length = h.length := by simp [wsO]
    rw [e2]
    have e3 : j - h.length = (j - h.length - 1) + 1 := by omega
    rw [e3]
    simp [wsO, List.getElem?_mapIdx]
    omega
/-! what is there from the start, by numbers: 0 to 5 static arrays, 10 to 17 the words of plans, 20 to 27 their bytes, 30 the script -/
def xsN : Nat → String × String
  | 0 => (RX6, "SETTING_FIRST")
  | 1 => (RX6, "SETTING_LEAST")
  | 2 => (RX6, "SETTING_MOST")
  | 3 => (RX5, "POLICY_PART")
  | 4 => (RX5, "DUE_END")
  | _ => (RX5, "BESIDE_END")
def xsC : Nat → List Int
  | 0 => [4, 50, 5, 6, 2, 0, 1]
  | 1 => [1, 1, 0, 1, 0, 0, 0]
  | 2 => [8, 99, 20, 20, 20, 3, 1]
  | 3 => [3, 4, 2, 1]
  | 4 => [5, 7, 10, 11]
  | _ => [7, 7, 10, 10, 10, 11]
def xkI : Nat → Nat × String
  | 0 => (63, "get")
  | 1 => (65, "look")
  | 2 => (67, "fill")
  | 3 => (69, "write")
  | 4 => (71, "apply")
  | 5 => (73, "tick")
  | 6 => (75, "cold")
  | _ => (77, "warm")
def xkB : List (List Int32) := [[103, 101, 116], [108, 111, 111, 107], [102, 105, 108, 108], [119, 114, 105, 116, 101], [97, 112, 112, 108, 121], [116, 105, 99, 107], [99, 111, 108, 100], [119, 97, 114, 109]]
def xkL : List Nat := [3, 4, 4, 5, 5, 4, 4, 4]
/-- the words that go along into every call; the words of nest mates -/
def gdT : List Cond := lw_tbl.filter goodWord
def isNest : Cond → Bool
  | .fieldLinkNest _ _ _ _ _ _ => true
  | .methodLinkNest _ _ _ _ => true
  | _ => false
def nwT : List Cond := lw_tbl.filter isNest
theorem gd_i (i : Nat) {w : Cond} (h : lw_tbl[i]? = some w) (hg : goodWord w = true) : w ∈ gdT := List.mem_filter.mpr ⟨List.mem_of_getElem? h, hg⟩
theorem nw_i (i : Nat) {w : Cond} (h : lw_tbl[i]? = some w) (hg : isNest w = true) : w ∈ nwT := List.mem_filter.mpr ⟨List.mem_of_getElem? h, hg⟩
theorem va_AOA.moved {t : FieldType} {u U : State} (hvm : u.vm.Alike U.vm) (h : va_AOA t u) : va_AOA t U := by
  obtain ⟨comp, c, k, h1, h2, h3, h4, h5⟩ := arrayOverA_spec h
  obtain ⟨k', hk', he⟩ := hvm.2.2 _ _ h3
  have hb : U.vm.bare = u.vm.bare := by first | exact hvm.bare_eq | exact hvm.bare_eq.symm
  have hi0 := va_idx_bare U.vm comp
  rw [hb] at hi0
  have hi := hi0.symm.trans ((va_idx_bare u.vm comp).trans h2)
  have hkind : k'.kind = .array comp (.array t) := by rw [he]; exact h4
  have f1 : U.vm.findClass (FieldType.array t).toString = some comp := by rw [hvm.findClass]; exact h1
  have f2 : U.vm.findClass ("[" ++ (FieldType.array t).toString) = some c := by rw [hvm.findClass]; exact h5
  unfold va_AOA Cond.before Cond.holds
  simp only [Cond.value]
  rw [f1, Option.bind_some]
  refine (congrArg (fun o : Option Nat => (o.bind (fun c => (U.vm.classes[c]?).map fun (k : Class) => match k.kind with | .array _ ty => decide (ty = FieldType.array t) && decide (U.vm.findClass ("[" ++ (FieldType.array t).toString) = some c) | _ => false) == some true)) hi).trans ?_
  simp [hk', hkind, f2]
def NW (s : State) : Prop := (∀ w ∈ nwT, va_Nw w s) ∧ va_AO "LookAsideCache$Plan" s ∧ va_AOA .int s ∧ va_AOA .long s
theorem NW.same {s U : State} (hv : U.vm = s.vm) (h : NW s) : NW U :=
  have ha : s.vm.Alike U.vm := by rw [hv]; exact Vm.Alike.refl s.vm
  ⟨fun w hw => (by
    have h1 := (List.mem_filter.mp hw).2
    refine va_Nw.same ?_ hv.symm (h.1 w hw)
    unfold isNest at h1
    split at h1 <;> first | rfl | cases h1), va_AO.moved ha h.2.1, va_AOA.moved ha h.2.2.1, va_AOA.moved ha h.2.2.2⟩
theorem NW.moved {s U : State} (hW : s.WarmedH U.vm) (h : NW s) : NW U :=
  ⟨fun w hw => (by
    have h1 := (List.mem_filter.mp hw).2
    have h2 := h.1 w hw
    unfold isNest at h1
    split at h1
    · exact va_Nw.warmF hW h2
    · exact va_Nw.warmM hW h2
    · cases h1), va_AO.moved hW.alike h.2.1, va_AOA.moved hW.alike h.2.2.1, va_AOA.moved hW.alike h.2.2.2⟩
abbrev XS : Type := Nat × (Int → Int)
def XF (X : XS) (E : Nat → Nat) (A : Nat → Prop) (s : State) (H : Heap) : Prop :=
  (∀ j, j < 6 → va_Z (xsN j).1 (xsN j).2 "[I" (.ref (E j)) A s H ∧ va_T .int (E j) (xsC j).length (fun i => .int (Int32.ofInt ((xsC j).getD i 0))) A s H) ∧
  va_Z "java/lang/String" "COMPACT_STRINGS" "Z" (.int 1) A s H ∧ (∀ k, k < 8 → vk_R RX4 (xkI k).1 (xkI k).2 (E (10 + k)) s) ∧
  vk_S 8 xkL xkB (fun k => E (10 + k)) (fun k => E (20 + k)) A s H ∧ va_T .int (E 30) X.1 (fun i => .int (Int32.ofInt (X.2 i))) A s H ∧
  va_Zq "jdk/internal/util/Preconditions" "SIOOBE_FORMATTER" "Ljava/util/function/BiFunction;" A s H ∧ NW s
theorem XF.kept {X : XS} {E : Nat → Nat} {A : Nat → Prop} {s : State} {H H1 : Heap} (h : XF X E A s H) (hq : ∀ a : Nat, a < H.size → ¬ A a → H1[a]? = H[a]?) : XF X E A s H1 :=
  ⟨fun j hj => ⟨(h.1 j hj).1.kept hq, (h.1 j hj).2.kept hq⟩, h.2.1.kept hq, h.2.2.1, h.2.2.2.1.kept hq, h.2.2.2.2.1.kept hq, h.2.2.2.2.2.1.kept hq, h.2.2.2.2.2.2⟩
theorem XF.moved {X : XS} {E : Nat → Nat} {A : Nat → Prop} {s U : State} {H : Heap} (hW : s.WarmedH U.vm) (h : XF X E A s H) : XF X E A U H :=
  ⟨fun j hj => ⟨va_Z.moved hW.alike (h.1 j hj).1, va_T.moved hW.alike (h.1 j hj).2⟩, va_Z.moved hW.alike h.2.1, fun k hk => vk_R.warm hW (h.2.2.1 k hk), vk_S.moved hW.alike h.2.2.2.1, va_T.moved hW.alike h.2.2.2.2.1, va_Zq.moved hW.alike h.2.2.2.2.2.1, h.2.2.2.2.2.2.moved hW⟩
theorem XF.same {X : XS} {E : Nat → Nat} {A : Nat → Prop} {s U : State} {H : Heap} (hv : U.vm = s.vm) (h : XF X E A s H) : XF X E A U H :=
  have ha : s.vm.Alike U.vm := by rw [hv]; exact Vm.Alike.refl s.vm
  ⟨fun j hj => ⟨va_Z.moved ha (h.1 j hj).1, va_T.moved ha (h.1 j hj).2⟩, va_Z.moved ha h.2.1, fun k hk => vk_R.same hv (h.2.2.1 k hk), vk_S.moved ha h.2.2.2.1, va_T.moved ha h.2.2.2.2.1, va_Zq.moved ha h.2.2.2.2.2.1, h.2.2.2.2.2.2.same hv⟩
/-- a method: its name, code, locals, what it returns; frames and locals' words that its callees need; cells and slots that it makes at most -/
abbrev Kd : Type := MethodName × ByteArray × Nat × Option FieldType × (Nat × Nat) × (Nat × Nat)
def Hl (D : va_G) (E : Nat → Nat) (A : Nat → Prop) (s : State) (ad : Nat → Nat) (ca : Nat → ClassId) (h : AH) (H : Heap) : Prop :=
  va_P D vwCl (wsO E ad ca h) H ∧ va_D A (wsO E ad ca h) ∧ (∀ (i : Nat) (c : AC) (ty : FieldType), h[i]? = some c → acT c = some ty → ArrOfT s (ca i) ty ∧ va_RA s (ca i) ty) ∧ ∀ c ∈ h, okC h.length c
theorem Hl.moved {D : va_G} {E : Nat → Nat} {A : Nat → Prop} {s U : State} {ad : Nat → Nat} {ca : Nat → ClassId} {h : AH} {H : Heap} (hvm : s.vm.Alike U.vm) (k : Hl D E A s ad ca h H) : Hl D E A U ad ca h H :=
  ⟨k.1, k.2.1, fun i c ty h1 h2 => ⟨arrOfT_moved hvm (k.2.2.1 i c ty h1 h2).1, (k.2.2.1 i c ty h1 h2).2.moved hvm⟩, k.2.2.2⟩
def Ex (n0 : Nat) (ad0 ad : Nat → Nat) (h : AH) : Prop := n0 ≤ h.length ∧ ∀ i, i < n0 → ad i = ad0 i
def okS (n : Nat) (S : List AV) : Prop := ∀ v ∈ S, okV n v
def okO (n : Nat) (r : Option AV) : Prop := ∀ v, r = some v → okV n v
def okL (n : Nat) (L : List (Option AV)) : Prop := ∀ (i : Nat) (v : AV), L[i]? = some (some v) → okV n v
def LR (E ad : Nat → Nat) (ls : Array Slot) (nL : Nat) (L : List (Option AV)) : Prop := (ls.size = nL ∧ lv_wf ls) ∧ ∀ (i : Nat) (v : AV), L[i]? = some (some v) → ls[i]? = some (.val (cvV E ad v))
def Cx (X : XS) (K : Kd) (D : va_G) (E : Nat → Nat) (A : Nat → Prop) (p : Program) (R : Room) (s : State) (m : MethodId) (args : Array Value) (meth : Method) (c : Code) : Prop :=
  p.tables.exec = Jvm.exec ∧ c.code = K.2.1 ∧ c.maxLocals = K.2.2.1 ∧ s.vm.findClass K.1.cls = some m.cls ∧ (∀ w ∈ gdT, w.before args s = true) ∧ (meth.sig.returnType = K.2.2.2.1 ∧ meth.locks = false ∧ meth.name = K.1.name) ∧
  va_K D vwCl [] s ∧ XF X E A s s.heap ∧ (∀ q, s.heap.size ≤ q → A q) ∧ K.2.2.2.2.1.1 ≤ R.frames ∧ K.2.2.2.2.1.2 ≤ R.locals
def Rt (K : Kd) (pc : Nat) : Option AV → Prop
  | none => K.2.2.2.1 = none ∧ decode K.2.1 pc = .ok (.return_, 1)
  | some (Sum.inl z) => (∃ ty, K.2.2.2.1 = some ty ∧ narrow ty (.int (Int32.ofInt z)) = .int (Int32.ofInt z)) ∧ decode K.2.1 pc = .ok (.ireturn, 1)
  | some (Sum.inr (Sum.inl _)) => K.2.2.2.1 = some .long ∧ decode K.2.1 pc = .ok (.lreturn, 1)
  | some (Sum.inr (Sum.inr _)) => (∃ n, K.2.2.2.1 = some (.object n)) ∧ decode K.2.1 pc = .ok (.areturn, 1)
def Wp (X : XS) (K : Kd) (pc : Nat) (L : List (Option AV)) (S : List AV) (h : AH) (b : Nat × Nat) (Q : Option AV → AH → Prop) : Prop :=
  ∀ (p : Program) (l : Launch) (e : Env) (R : Room) (s : State) (m : MethodId) (args : Array Value) (below : List Frame) (meth : Method) (c : Code) (D : va_G) (E : Nat → Nat) (A : Nat → Prop) (ad0 : Nat → Nat) (n0 : Nat) (Z : State → Prop),
    Cx X K D E A p R s m args meth c →
    (∀ (ad : Nat → Nat) (ca : Nat → ClassId) (h' : AH) (r : Option AV) (H : Heap) (locs : List Loc) (cells slots pc : Nat) (ls : Array Slot), Hl D E A s ad ca h' H → va_S A s.heap H locs → Ex n0 ad0 ad h' → cells ≤ R.cells → slots ≤ R.slots → Q r h' → okO h'.length r → Rt K pc r →
      W p l e R s m args below meth c H locs cells slots Z (F0 m pc ls ((r.map (cvV E ad)).toList))) →
    ∀ (ad : Nat → Nat) (ca : Nat → ClassId) (H : Heap) (locs : List Loc) (cells slots : Nat) (ls : Array Slot), Hl D E A s ad ca h H → va_S A s.heap H locs → Ex n0 ad0 ad h → okL h.length L → okS h.length S → LR E ad ls K.2.2.1 L → cells + b.1 ≤ R.cells → slots + b.2 ≤ R.slots →
      W p l e R s m args below meth c H locs cells slots Z (F0 m pc ls (S.map (cvV E ad)))
def rmK (K : Kd) : Room := { frames := K.2.2.2.2.1.1, cells := K.2.2.2.2.2.1, slots := K.2.2.2.2.2.2, locals := K.2.2.2.2.1.2 }
def wsK (K : Kd) : List Cond := Cond.code K.1 K.2.1 K.2.2.1 K.2.2.2.1 :: gdT
def PcK (X : XS) (D : va_G) (E : Nat → Nat) (A : Nat → Prop) (ad : Nat → Nat) (ca : Nat → ClassId) (As : List AV) (h : AH) : Array Value → State → Prop := fun a U =>
  a = (As.map (cvV E ad)).toArray ∧ Hl D E A U ad ca h U.heap ∧ okS h.length As ∧ va_K D vwCl [] U ∧ XF X E A U U.heap ∧ ∀ q, U.heap.size ≤ q → A q
def QcK (D : va_G) (E : Nat → Nat) (A : Nat → Prop) (ad : Nat → Nat) (h : AH) (Q : Option AV → AH → Prop) : Array Value → State → Outcome → State → Prop := fun _ st o t =>
  (∃ (r : Option AV) (h' : AH) (ad' : Nat → Nat) (ca' : Nat → ClassId), Q r h' ∧ o = .returned (r.map (cvV E ad')) ∧ Hl D E A t ad' ca' h' t.heap ∧ Ex h.length ad ad' h' ∧ okO h'.length r) ∧ va_F A st t
/-- a call: with these arguments, at this heap, it returns and Q tells how -/
def Cl (X : XS) (K : Kd) (As : List AV) (h : AH) (Q : Option AV → AH → Prop) : Prop :=
  ∀ (l : Launch) (D : va_G) (E : Nat → Nat) (A : Nat → Prop) (ad : Nat → Nat) (ca : Nat → ClassId), Met l K.1 (wsK K) (rmK K) (PcK X D E A ad ca As h) (QcK D E A ad h Q) K.2.2.2.2.2.1 K.2.2.2.2.2.2 A
