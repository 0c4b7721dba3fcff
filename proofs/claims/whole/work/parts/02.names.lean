/-- wanting in the kit of this form: an array over arrays, as a word -/
def va_AOA (t : FieldType) (U : State) : Prop := (Cond.arrayOver (.array t)).before #[] U = true
theorem va_AOA.of {t : FieldType} {A : Array Value} {U : State} (h : (Cond.arrayOver (.array t)).before A U = true) : va_AOA t U := h
theorem va_AOA.use {t : FieldType} {A : Array Value} {U : State} (h : va_AOA t U) : (Cond.arrayOver (.array t)).before A U = true := h
/-! ===== BEGIN words of one list among another's, by their places ===== -/
theorem goodIn_r {big : List Cond} (ws : List Cond) (ps : List Nat) (hp : ws = ps.filterMap (fun i => big[i]?)) (h : ws.all goodWord = true) : GoodIn big ws := by
  intro w hw
  have h1 := List.all_eq_true.mp h w hw
  rw [hp] at hw
  obtain ⟨i, -, hi⟩ := List.mem_filterMap.mp hw
  have hm : w ∈ big := by first | exact List.mem_of_getElem? hi | exact List.getElem?_mem hi
  exact ⟨hm, good_of_word h1⟩
theorem goodIn_app {big a b : List Cond} (ha : GoodIn big a) (hb : GoodIn big b) : GoodIn big (a ++ b) := fun w h => (List.mem_append.mp h).elim (ha w) (hb w)
theorem goodIn_ca {big a b : List Cond} {c : Cond} (ha : GoodIn big (c :: a)) (hb : GoodIn big b) : GoodIn big (c :: (a ++ b)) := fun w h => (List.mem_cons.mp h).elim (fun e => ha w (List.mem_cons.mpr (Or.inl e))) (fun h => (List.mem_append.mp h).elim (fun h => ha w (List.mem_cons.mpr (Or.inr h))) (hb w))
theorem goodIn_sub {big ws : List Cond} (hm : ∀ w ∈ ws, w ∈ big) (h : ws.all goodWord = true) : GoodIn big ws := fun w hw => ⟨hm w hw, good_of_word (List.all_eq_true.mp h w hw)⟩
/-! ===== END ===== -/

/-! ===== BEGIN new T[n][m]: the outer array a place, the inner ones among the pooled ===== -/
/-- f, but v at every address of l -/
def vr_up {α : Type} (f : Nat → α) (l : List Nat) (v : α) : Nat → α := fun a => if a ∈ l then v else f a
theorem vr_up_in {α : Type} {f : Nat → α} {l : List Nat} {v : α} {a : Nat} (h : a ∈ l) : vr_up f l v a = v := if_pos h
theorem vr_up_ne {α : Type} {f : Nat → α} {l : List Nat} {v : α} {a : Nat} (h : a ∉ l) : vr_up f l v a = f a := if_neg h
theorem vr_rows {L l : List Nat} {f : Nat → va_E} {e : va_E} (h : ∀ a, a ∈ l → a ∉ L) : va_pl L f ++ l.map (fun a => (a, e)) = va_pl (L ++ l) (vr_up f l e) := by
  unfold va_pl
  rw [List.map_append]
  congr 1
  · apply List.map_congr_left
    intro a ha
    rw [vr_up_ne (fun q => h a q ha)]
  · apply List.map_congr_left
    intro a ha
    rw [vr_up_in ha]
theorem vr_lay {X rows : va_W} {x : Nat × va_E} {pl : va_W} {D : va_G} {cl : List vw_C} {H : Heap} (hP : va_P D cl (((X ++ pl) ++ [x]) ++ rows) H) : va_P D cl ((X ++ [x]) ++ (pl ++ rows)) H := by
  rw [List.append_assoc (X ++ pl)] at hP
  have h := va_P.swap hP
  rw [← List.append_assoc X] at h
  have h2 := va_P.swap h
  rw [List.append_assoc (X ++ [x])] at h2
  exact h2
theorem vr_layD {X rows : va_W} {x : Nat × va_E} {pl : va_W} {A : Nat → Prop} (hD : va_D A (((X ++ pl) ++ [x]) ++ rows)) : va_D A ((X ++ [x]) ++ (pl ++ rows)) := by
  rw [List.append_assoc (X ++ pl)] at hD
  have h := va_D.swap hD
  rw [← List.append_assoc X] at h
  have h2 := va_D.swap h
  rw [List.append_assoc (X ++ [x])] at h2
  exact h2
theorem vr_outer (c : ClassId) (N h0 : Nat) : ∀ i : Nat, Jvm.Free.Multi.outerC c N h0 i = arrV c N (fun j => va_rf (if j < i then some (h0 + 1 + j) else none))
  | 0 => by
    show ({ cls := c, slots := Array.replicate N .null, vm := .none } : Cell) = _
    rw [arrV_new]
    refine congrArg (arrV c N) (funext fun j => ?_)
    simp [va_rf]
  | i + 1 => by
    show (Jvm.Free.Multi.outerC c N h0 i).setSlot i (.ref (h0 + 1 + i)) = _
    rw [vr_outer c N h0 i, arrV_store]
    refine congrArg (arrV c N) (funext fun j => ?_)
    by_cases e : j = i
    · subst e
      simp [updV, va_rf]
    · by_cases h : j < i
      · simp [updV, e, h, Nat.lt_succ_of_lt h]
      · simp [updV, e, h, show ¬ j < i + 1 by omega]
section VGM
variable {p : Program} {l : Launch} {e : Env} {R : Room} {s : State} {m : MethodId} {args : Array Value} {below : List Frame} {meth : Method} {c : Code} {H : Heap} {locs : List Loc} {cells slots : Nat} {Q : State → Prop}
variable {cc : ByteArray} {pc : Nat} {ls : Array Slot} {rest : List Value} {D : va_G} {cl : List vw_C} {A : Nat → Prop} {a : Nat} {tys : List (ClassId × FieldType)} {ws : va_W} {H0 : Heap}
theorem va_mna {X : va_W} {L : List Nat} {f : Nat → va_E} {cc : ByteArray} (hexec : p.tables.exec = Jvm.exec) (hb : c.code = cc) {own : String} {index : Nat} {ty : FieldType} {cy : ClassId} (hown : s.vm.findClass own = some m.cls) (hclink : (Cond.classLink own index ("[" ++ (FieldType.array ty).toString)).before args s = true) (hover : va_AOA ty s) (harr : (Cond.arrayClass ty).before args s = true) (hcy : s.vm.findClass (FieldType.array ty).toString = some cy)
    (hK : va_K D cl tys s) (hP : va_P D cl (X ++ va_pl L f) H) (hD : va_D A (X ++ va_pl L f)) (hS : va_S A H0 H locs) (hA : ∀ q, H0.size ≤ q → A q) {n k : Int32} {N' K' : Nat} {z : vp_A} (hn : ¬ n < 0) (hk : ¬ k < 0) (hN : n.toNatClampNeg = N') (hM : k.toNatClampNeg = K')
    (hb1 : N' * 4 ≤ 536870912) (hb2 : K' * componentBytes ty ≤ 536870912) (hb3 : K' ≤ 536870912) (hdf : fits ty (defaultValue ty) = true) (hdd : (defaultValue ty).isDefault = true) (hcells : cells + (1 + N') ≤ R.cells) (hslots : slots + (N' + N' * K') ≤ R.slots) (hz : ∀ c : ClassId, Jvm.Free.Multi.innerC c K' (defaultValue ty) = vp_cell c z) (hdg : decode cc pc = .ok (.multianewarray index 2, 4))
    (kk : ∀ (q : Nat) (r : Nat → Nat) (cA : ClassId) (H1 : Heap), (∀ i j : Nat, i < N' → j < N' → r i = r j → i = j) → (∀ i : Nat, i < N' → r i ∉ L) → va_K D cl (tys ++ [(cA, .array ty)]) s →
      va_P D cl ((X ++ [(q, .inl (cA, N', .inr (.inr (.inr (.inr (fun i => if i < N' then some (r i) else none))))))]) ++ va_pl (L ++ (List.range N').map r) (vr_up f ((List.range N').map r) (.inl (cy, z)))) H1 → va_D A ((X ++ [(q, .inl (cA, N', .inr (.inr (.inr (.inr (fun i => if i < N' then some (r i) else none))))))]) ++ va_pl (L ++ (List.range N').map r) (vr_up f ((List.range N').map r) (.inl (cy, z)))) → va_S A H0 H1 locs →
      W p l e R s m args below meth c H1 locs (cells + 1 + N') (slots + N' + N' * K') Q (F0 m (pc + 4) ls (.ref q :: rest))) : W p l e R s m args below meth c H locs cells slots Q (F0 m pc ls (.int k :: .int n :: rest)) := by
  subst hN
  subst hM
  intro T hT Xs
  obtain ⟨vm₁, cA, comp, -, fA, fC, hO, -, X', step⟩ := Xs.multianewarray2F hexec hown hclink (va_AOA.use hover) harr (g := F0 m pc ls (.int k :: .int n :: rest)) rfl (by rw [hb]; exact hdg) rfl hn hk hb1 hb2 hb3 hdf hdd hcells hslots
  have ec : some cy = some comp := hcy.symm.trans fC
  cases ec
  generalize hF : Jvm.Free.Multi.fill (T.setVm vm₁) cA cy n.toNatClampNeg k.toNatClampNeg (defaultValue ty) n.toNatClampNeg = F at X' step
  have hTh : (T.setVm vm₁).heap = H := hT
  obtain ⟨f1, f2, -, -⟩ := Jvm.Free.Multi.fill_facts (T.setVm vm₁) cA cy n.toNatClampNeg k.toNatClampNeg (defaultValue ty) n.toNatClampNeg
  rw [hF, hTh] at f1 f2
  have hold : ∀ x : Nat, x < H.size → F.heap[x]? = H[x]? := fun x hx => by
    have := Jvm.Free.Multi.fill_old (T.setVm vm₁) cA cy n.toNatClampNeg k.toNatClampNeg (defaultValue ty) (a := x) (by rw [hTh]; exact hx) n.toNatClampNeg
    rw [hF, hTh] at this
    exact this
  have hrow : ∀ j : Nat, j < n.toNatClampNeg → F.heap[H.size + 1 + j]? = some (vp_cell cy z) := fun j hj => by
    have := Jvm.Free.Multi.fill_inner (T.setVm vm₁) cA cy n.toNatClampNeg k.toNatClampNeg (defaultValue ty) n.toNatClampNeg j hj
    rw [hF, hTh, hz] at this
    exact this
  have hout : Jvm.Free.Multi.outerC cA n.toNatClampNeg H.size n.toNatClampNeg = vp_cell cA (n.toNatClampNeg, .inr (.inr (.inr (.inr (fun i => if i < n.toNatClampNeg then some (H.size + 1 + i) else none))))) := by
    rw [vp_cell_q]
    exact vr_outer cA n.toNatClampNeg H.size n.toNatClampNeg
  rw [hout] at f2
  have hlt : ∀ a, a ∈ L → a < H.size := fun a ha => by
    obtain ⟨k9, hk9⟩ := va_pl_get (X := X) (f := f) ha
    exact (hP k9 _ hk9).lt
  have hnl : ∀ i : Nat, i < n.toNatClampNeg → H.size + 1 + i ∉ L := fun i _ h => by
    have := hlt _ h
    omega
  have hnm : ∀ a, a ∈ (List.range n.toNatClampNeg).map (fun i => H.size + 1 + i) → a ∉ L := fun a ha h => by
    obtain ⟨i, -, rfl⟩ := List.mem_map.mp ha
    have := hlt _ h
    omega
  have hP0 : va_P D cl (X ++ va_pl L f) F.heap := hP.kept (fun k9 x hx => hold x.1 ((hP k9 x hx).lt))
  have hP1 : va_P D cl ((X ++ va_pl L f) ++ [(H.size, .inl (cA, n.toNatClampNeg, .inr (.inr (.inr (.inr (fun i => if i < n.toNatClampNeg then some (H.size + 1 + i) else none))))))]) F.heap := hP0.app (fun k9 x hx => by
    have h0 : k9 < 1 := (List.getElem?_eq_some_iff.mp hx).1
    rw [show k9 = 0 by omega] at hx
    cases hx
    exact f2)
  have hP2 : va_P D cl (((X ++ va_pl L f) ++ [(H.size, .inl (cA, n.toNatClampNeg, .inr (.inr (.inr (.inr (fun i => if i < n.toNatClampNeg then some (H.size + 1 + i) else none))))))]) ++ ((List.range n.toNatClampNeg).map (fun i => H.size + 1 + i)).map (fun a => (a, .inl (cy, z)))) F.heap := hP1.app (fun k9 x hx => by
    obtain ⟨a, ha, rfl⟩ := List.mem_map.mp (List.mem_of_getElem? hx)
    obtain ⟨i, hi, rfl⟩ := List.mem_map.mp ha
    exact hrow i (List.mem_range.mp hi))
  have hD2 : va_D A (((X ++ va_pl L f) ++ [(H.size, .inl (cA, n.toNatClampNeg, .inr (.inr (.inr (.inr (fun i => if i < n.toNatClampNeg then some (H.size + 1 + i) else none))))))]) ++ ((List.range n.toNatClampNeg).map (fun i => H.size + 1 + i)).map (fun a => (a, .inl (cy, z)))) := by
    have hD1 := hD.push (e := .inl (cA, n.toNatClampNeg, .inr (.inr (.inr (.inr (fun i => if i < n.toNatClampNeg then some (H.size + 1 + i) else none)))))) hP rfl (hA _ hS.1)
    generalize hW1 : (X ++ va_pl L f) ++ [(H.size, .inl (cA, n.toNatClampNeg, .inr (.inr (.inr (.inr (fun i => if i < n.toNatClampNeg then some (H.size + 1 + i) else none))))))] = W1 at hD1 hP1 ⊢
    have hle : ∀ (k9 : Nat) (x : Nat × va_E), W1[k9]? = some x → x.1 ≤ H.size := fun k9 x hx => by
      rw [← hW1] at hx
      by_cases hl : k9 < (X ++ va_pl L f).length
      · rw [List.getElem?_append_left hl] at hx
        exact Nat.le_of_lt ((hP k9 x hx).lt)
      · rw [List.getElem?_append_right (by omega)] at hx
        have h0 : k9 - (X ++ va_pl L f).length < 1 := (List.getElem?_eq_some_iff.mp hx).1
        rw [show k9 - (X ++ va_pl L f).length = 0 by omega] at hx
        cases hx
        exact Nat.le_refl _
    have hr : ∀ (k9 : Nat) (x : Nat × va_E), (((List.range n.toNatClampNeg).map (fun i => H.size + 1 + i)).map (fun a => ((a, .inl (cy, z)) : Nat × va_E)))[k9]? = some x → x.1 = H.size + 1 + k9 := fun k9 x hx => by
      rw [List.getElem?_map, List.getElem?_map] at hx
      by_cases h9 : k9 < n.toNatClampNeg
      · rw [List.getElem?_range h9] at hx
        cases hx
        rfl
      · have hn0 : (List.range n.toNatClampNeg)[k9]? = none := List.getElem?_eq_none (by rw [List.length_range]; omega)
        rw [hn0] at hx
        cases hx
    refine ⟨fun i j x y hi hj hxy => ?_, fun k9 x hx => ?_⟩
    · by_cases h1 : i < W1.length <;> by_cases h2 : j < W1.length
      · rw [List.getElem?_append_left h1] at hi
        rw [List.getElem?_append_left h2] at hj
        exact hD1.1 i j x y hi hj hxy
      · rw [List.getElem?_append_left h1] at hi
        rw [List.getElem?_append_right (by omega)] at hj
        have := hle _ _ hi
        have := hr _ _ hj
        omega
      · rw [List.getElem?_append_right (by omega)] at hi
        rw [List.getElem?_append_left h2] at hj
        have := hle _ _ hj
        have := hr _ _ hi
        omega
      · rw [List.getElem?_append_right (by omega)] at hi hj
        have := hr _ _ hi
        have := hr _ _ hj
        omega
    · by_cases h1 : k9 < W1.length
      · rw [List.getElem?_append_left h1] at hx
        exact hD1.2 k9 x hx
      · rw [List.getElem?_append_right (by omega)] at hx
        have := hr _ _ hx
        exact hA _ (by have := hS.1; omega)
  have hAr : ArrOfT s cA (.array ty) := fun N9 z9 => by
    obtain ⟨-, k9, hk9, cm9, hkk9⟩ := (hO 0 0 0).1
    exact ⟨(fun q hq => by cases hq), k9, hk9, cm9, hkk9⟩
  have hK2 : va_K D cl (tys ++ [(cA, .array ty)]) s := ⟨hK.1, fun k9 x hx => by
    by_cases hl : k9 < tys.length
    · rw [List.getElem?_append_left hl] at hx
      exact hK.2 k9 x hx
    · rw [List.getElem?_append_right (by omega)] at hx
      have h0 : k9 - tys.length < 1 := (List.getElem?_eq_some_iff.mp hx).1
      rw [show k9 - tys.length = 0 by omega] at hx
      cases hx
      exact ⟨hAr, fA⟩⟩
  obtain ⟨t, a1, b1⟩ := kk H.size (fun i => H.size + 1 + i) cA F.heap (fun i j _ _ h => by have h9 : H.size + 1 + i = H.size + 1 + j := h; omega) hnl hK2 (by rw [← vr_rows hnm]; exact vr_lay hP2) (by rw [← vr_rows hnm]; exact vr_layD hD2) ⟨by rw [f1]; have := hS.1; omega, fun x h1 h2 => (hold x (Nat.lt_of_lt_of_le h1 hS.1)).trans (hS.2.1 x h1 h2), hS.2.2⟩ F rfl X'
  refine ⟨t, step t ?_, b1⟩
  have e : T.heap.size = H.size := by rw [hT]
  rw [e]
  exact a1
end VGM
/-! ===== END ===== -/

/-! ===== BEGIN printed: names, fields, word lists, decode rows ===== -/
def RX0 : String := "LookAsideCache$History"
def TX0 : u_T := fun k => match k with
  | 0 => ("LookAsideCache$History", "slots", "[[I", true)
  | 1 => ("LookAsideCache$History", "here", "I", false)
  | 2 => ("LookAsideCache$History", "behind", "I", false)
  | _ => ("LookAsideCache$History", "ahead", "I", false)
def tyX0 : Nat → FieldType := fun k => match k with
  | 0 => .array (.array .int)
  | 1 => .int
  | 2 => .int
  | _ => .int
abbrev wsX00 : List Cond := u_ws RX0 TX0 4
theorem nmX0 : ∀ a, a < 4 → ∀ b, b < 4 → a ≠ b → (TX0 a).2.1 ≠ (TX0 b).2.1 := by decide +kernel
theorem tyX0_ok : ∀ k, k < 4 → parseFieldDescriptor (TX0 k).2.2.1 = some (tyX0 k) := by decide +kernel
abbrev cX0_init : ByteArray := prog_2_method_1_code
def yX0_init : MethodName := ⟨RX0, "<init>", "()V"⟩
abbrev cX0_begin : ByteArray := prog_2_method_2_code
def yX0_begin : MethodName := ⟨RX0, "begin", "(LLookAsideCache$World;)V"⟩
abbrev cX0_note : ByteArray := prog_2_method_3_code
def yX0_note : MethodName := ⟨RX0, "note", "(LLookAsideCache$World;)V"⟩
abbrev cX0_keepHere : ByteArray := prog_2_method_4_code
def yX0_keepHere : MethodName := ⟨RX0, "keepHere", "(LLookAsideCache$World;)V"⟩
abbrev cX0_stepBack : ByteArray := prog_2_method_5_code
def yX0_stepBack : MethodName := ⟨RX0, "stepBack", "(LLookAsideCache$World;)Z"⟩
abbrev cX0_stepOn : ByteArray := prog_2_method_6_code
def yX0_stepOn : MethodName := ⟨RX0, "stepOn", "(LLookAsideCache$World;)Z"⟩
abbrev cX0_stepTo : ByteArray := prog_2_method_7_code
def yX0_stepTo : MethodName := ⟨RX0, "stepTo", "(ILLookAsideCache$World;)Z"⟩
def RX1 : String := "LookAsideCache$Orders"
def TX1 : u_T := fun k => match k with
  | 0 => ("LookAsideCache$Orders", "world", "LLookAsideCache$World;", true)
  | 1 => ("LookAsideCache$Orders", "order", "[I", true)
  | 2 => ("LookAsideCache$Orders", "firstStale", "[I", true)
  | 3 => ("LookAsideCache$Orders", "placeInPlan", "[I", true)
  | 4 => ("LookAsideCache$Orders", "found", "[J", true)
  | 5 => ("LookAsideCache$Orders", "length", "I", false)
  | 6 => ("LookAsideCache$Orders", "total", "I", false)
  | 7 => ("LookAsideCache$Orders", "stale", "I", false)
  | 8 => ("LookAsideCache$Orders", "leastLoads", "I", false)
  | _ => ("LookAsideCache$Orders", "mostLoads", "I", false)
def tyX1 : Nat → FieldType := fun k => match k with
  | 0 => .object "LookAsideCache$World"
  | 1 => .array .int
  | 2 => .array .int
  | 3 => .array .int
  | 4 => .array .long
  | 5 => .int
  | 6 => .int
  | 7 => .int
  | 8 => .int
  | _ => .int
abbrev wsX10 : List Cond := u_ws RX1 TX1 10
theorem nmX1 : ∀ a, a < 10 → ∀ b, b < 10 → a ≠ b → (TX1 a).2.1 ≠ (TX1 b).2.1 := by decide +kernel
theorem tyX1_ok : ∀ k, k < 10 → parseFieldDescriptor (TX1 k).2.2.1 = some (tyX1 k) := by decide +kernel
abbrev cX1_init : ByteArray := prog_3_method_1_code
def yX1_init : MethodName := ⟨RX1, "<init>", "(LLookAsideCache$World;)V"⟩
abbrev cX1_goThrough : ByteArray := prog_3_method_2_code
def yX1_goThrough : MethodName := ⟨RX1, "goThrough", "(LLookAsideCache$World;[LLookAsideCache$Plan;II)V"⟩
abbrev cX1_beginOrder : ByteArray := prog_3_method_3_code
def yX1_beginOrder : MethodName := ⟨RX1, "beginOrder", "([LLookAsideCache$Plan;I)V"⟩
abbrev cX1_weigh : ByteArray := prog_3_method_4_code
def yX1_weigh : MethodName := ⟨RX1, "weigh", "(II)V"⟩
abbrev cX1_turnToNextOrder : ByteArray := prog_3_method_5_code
def yX1_turnToNextOrder : MethodName := ⟨RX1, "turnToNextOrder", "()Z"⟩
abbrev cX1_swap : ByteArray := prog_3_method_6_code
def yX1_swap : MethodName := ⟨RX1, "swap", "(II)V"⟩
abbrev cX1_outcome : ByteArray := prog_3_method_7_code
def yX1_outcome : MethodName := ⟨RX1, "outcome", "(I)I"⟩
abbrev cX1_valuesFound : ByteArray := prog_3_method_8_code
def yX1_valuesFound : MethodName := ⟨RX1, "valuesFound", "()I"⟩
abbrev cX1_witnessAt : ByteArray := prog_3_method_9_code
def yX1_witnessAt : MethodName := ⟨RX1, "witnessAt", "(I)I"⟩
def RX2 : String := "LookAsideCache$Plan"
def TX2 : u_T := fun k => match k with
  | 0 => ("LookAsideCache$Plan", "kinds", "[I", true)
  | 1 => ("LookAsideCache$Plan", "firsts", "[I", true)
  | 2 => ("LookAsideCache$Plan", "seconds", "[I", true)
  | _ => ("LookAsideCache$Plan", "size", "I", false)
def tyX2 : Nat → FieldType := fun k => match k with
  | 0 => .array .int
  | 1 => .array .int
  | 2 => .array .int
  | _ => .int
abbrev wsX20 : List Cond := u_ws RX2 TX2 4
theorem nmX2 : ∀ a, a < 4 → ∀ b, b < 4 → a ≠ b → (TX2 a).2.1 ≠ (TX2 b).2.1 := by decide +kernel
theorem tyX2_ok : ∀ k, k < 4 → parseFieldDescriptor (TX2 k).2.2.1 = some (tyX2 k) := by decide +kernel
abbrev cX2_init : ByteArray := prog_4_method_1_code
def yX2_init : MethodName := ⟨RX2, "<init>", "()V"⟩
abbrev cX2_add : ByteArray := prog_4_method_2_code
def yX2_add : MethodName := ⟨RX2, "add", "(III)V"⟩
abbrev cX2_perform : ByteArray := prog_4_method_3_code
def yX2_perform : MethodName := ⟨RX2, "perform", "(IILLookAsideCache$World;)V"⟩
def RX3 : String := "LookAsideCache$Storm"
def TX3 : u_T := fun k => match k with
  | 0 => ("LookAsideCache$Storm", "world", "LLookAsideCache$World;", true)
  | 1 => ("LookAsideCache$Storm", "rounds", "I", false)
  | 2 => ("LookAsideCache$Storm", "loads", "I", false)
  | 3 => ("LookAsideCache$Storm", "served", "I", false)
  | _ => ("LookAsideCache$Storm", "fills", "I", false)
def tyX3 : Nat → FieldType := fun k => match k with
  | 0 => .object "LookAsideCache$World"
  | 1 => .int
  | 2 => .int
  | 3 => .int
  | _ => .int
abbrev wsX30 : List Cond := u_ws RX3 TX3 5
theorem nmX3 : ∀ a, a < 5 → ∀ b, b < 5 → a ≠ b → (TX3 a).2.1 ≠ (TX3 b).2.1 := by decide +kernel
theorem tyX3_ok : ∀ k, k < 5 → parseFieldDescriptor (TX3 k).2.2.1 = some (tyX3 k) := by decide +kernel
abbrev cX3_init : ByteArray := prog_5_method_1_code
def yX3_init : MethodName := ⟨RX3, "<init>", "(LLookAsideCache$World;)V"⟩
abbrev cX3_run : ByteArray := prog_5_method_2_code
def yX3_run : MethodName := ⟨RX3, "run", "(IIZ)V"⟩
abbrev cX3_obtainAll : ByteArray := prog_5_method_3_code
def yX3_obtainAll : MethodName := ⟨RX3, "obtainAll", "(IIZ)I"⟩
abbrev cX3_lookAll : ByteArray := prog_5_method_4_code
def yX3_lookAll : MethodName := ⟨RX3, "lookAll", "(II)I"⟩
abbrev cX3_fillAll : ByteArray := prog_5_method_5_code
def yX3_fillAll : MethodName := ⟨RX3, "fillAll", "(II)I"⟩
abbrev cX3_outcome : ByteArray := prog_5_method_6_code
def yX3_outcome : MethodName := ⟨RX3, "outcome", "(I)I"⟩
def RX4 : String := "LookAsideCache$Tape"
def TX4 : u_T := fun k => match k with
  | 0 => ("LookAsideCache$Tape", "signs", "[I", true)
  | 1 => ("LookAsideCache$Tape", "length", "I", false)
  | _ => ("LookAsideCache$Tape", "at", "I", false)
def tyX4 : Nat → FieldType := fun k => match k with
  | 0 => .array .int
  | 1 => .int
  | _ => .int
abbrev wsX40 : List Cond := u_ws RX4 TX4 3
theorem nmX4 : ∀ a, a < 3 → ∀ b, b < 3 → a ≠ b → (TX4 a).2.1 ≠ (TX4 b).2.1 := by decide +kernel
theorem tyX4_ok : ∀ k, k < 3 → parseFieldDescriptor (TX4 k).2.2.1 = some (tyX4 k) := by decide +kernel
abbrev cX4_init : ByteArray := prog_6_method_1_code
def yX4_init : MethodName := ⟨RX4, "<init>", "()V"⟩
abbrev cX4_append : ByteArray := prog_6_method_2_code
def yX4_append : MethodName := ⟨RX4, "append", "(I)Z"⟩
abbrev cX4_readInto : ByteArray := prog_6_method_3_code
def yX4_readInto : MethodName := ⟨RX4, "readInto", "(LLookAsideCache$Plan;)I"⟩
abbrev cX4_readAct : ByteArray := prog_6_method_4_code
def yX4_readAct : MethodName := ⟨RX4, "readAct", "(LLookAsideCache$Plan;)Z"⟩
abbrev cX4_readWord : ByteArray := prog_6_method_5_code
def yX4_readWord : MethodName := ⟨RX4, "readWord", "()I"⟩
abbrev cX4_stands : ByteArray := prog_6_method_6_code
def yX4_stands : MethodName := ⟨RX4, "stands", "(Ljava/lang/String;I)Z"⟩
abbrev cX4_readNumber : ByteArray := prog_6_method_7_code
def yX4_readNumber : MethodName := ⟨RX4, "readNumber", "(II)I"⟩
abbrev cX4_wordOf : ByteArray := prog_6_method_8_code
def yX4_wordOf : MethodName := ⟨RX4, "wordOf", "(I)Ljava/lang/String;"⟩
abbrev cX4_mostOf : ByteArray := prog_6_method_9_code
def yX4_mostOf : MethodName := ⟨RX4, "mostOf", "(I)I"⟩
def RX5 : String := "LookAsideCache$World"
def TX5 : u_T := fun k => match k with
  | _ => ("LookAsideCache$World", "cell", "[I", true)
def tyX5 : Nat → FieldType := fun k => match k with
  | _ => .array .int
abbrev wsX50 : List Cond := u_ws RX5 TX5 1
theorem nmX5 : ∀ a, a < 1 → ∀ b, b < 1 → a ≠ b → (TX5 a).2.1 ≠ (TX5 b).2.1 := by decide +kernel
theorem tyX5_ok : ∀ k, k < 1 → parseFieldDescriptor (TX5 k).2.2.1 = some (tyX5 k) := by decide +kernel
abbrev cX5_init : ByteArray := prog_7_method_1_code
def yX5_init : MethodName := ⟨RX5, "<init>", "()V"⟩
abbrev cX5_copyFrom : ByteArray := prog_7_method_2_code
def yX5_copyFrom : MethodName := ⟨RX5, "copyFrom", "([I)V"⟩
abbrev cX5_copyTo : ByteArray := prog_7_method_3_code
def yX5_copyTo : MethodName := ⟨RX5, "copyTo", "([I)V"⟩
abbrev cX5_spotAt : ByteArray := prog_7_method_4_code
def yX5_spotAt : MethodName := ⟨RX5, "spotAt", "(II)I"⟩
abbrev cX5_handAt : ByteArray := prog_7_method_5_code
def yX5_handAt : MethodName := ⟨RX5, "handAt", "(I)I"⟩
abbrev cX5_writeAt : ByteArray := prog_7_method_6_code
def yX5_writeAt : MethodName := ⟨RX5, "writeAt", "(I)I"⟩
abbrev cX5_isAhead : ByteArray := prog_7_method_7_code
def yX5_isAhead : MethodName := ⟨RX5, "isAhead", "(I)Z"⟩
abbrev cX5_now : ByteArray := prog_7_method_8_code
def yX5_now : MethodName := ⟨RX5, "now", "()I"⟩
abbrev cX5_writes : ByteArray := prog_7_method_9_code
def yX5_writes : MethodName := ⟨RX5, "writes", "()I"⟩
abbrev cX5_settingOf : ByteArray := prog_7_method_10_code
def yX5_settingOf : MethodName := ⟨RX5, "settingOf", "(I)I"⟩
abbrev cX5_ledOf : ByteArray := prog_7_method_11_code
def yX5_ledOf : MethodName := ⟨RX5, "ledOf", "(I)I"⟩
abbrev cX5_placeOf : ByteArray := prog_7_method_12_code
def yX5_placeOf : MethodName := ⟨RX5, "placeOf", "(I)I"⟩
abbrev cX5_loadsOf : ByteArray := prog_7_method_13_code
def yX5_loadsOf : MethodName := ⟨RX5, "loadsOf", "(I)I"⟩
abbrev cX5_allLoads : ByteArray := prog_7_method_14_code
def yX5_allLoads : MethodName := ⟨RX5, "allLoads", "()I"⟩
abbrev cX5_markerOf : ByteArray := prog_7_method_15_code
def yX5_markerOf : MethodName := ⟨RX5, "markerOf", "(II)I"⟩
abbrev cX5_markers : ByteArray := prog_7_method_16_code
def yX5_markers : MethodName := ⟨RX5, "markers", "()I"⟩
abbrev cX5_groupOf : ByteArray := prog_7_method_17_code
def yX5_groupOf : MethodName := ⟨RX5, "groupOf", "(I)I"⟩
abbrev cX5_hasHandFor : ByteArray := prog_7_method_18_code
def yX5_hasHandFor : MethodName := ⟨RX5, "hasHandFor", "(II)Z"⟩
abbrev cX5_hands : ByteArray := prog_7_method_19_code
def yX5_hands : MethodName := ⟨RX5, "hands", "()I"⟩
abbrev cX5_clientPart : ByteArray := prog_7_method_20_code
def yX5_clientPart : MethodName := ⟨RX5, "clientPart", "(II)I"⟩
abbrev cX5_hasEntry : ByteArray := prog_7_method_21_code
def yX5_hasEntry : MethodName := ⟨RX5, "hasEntry", "(II)Z"⟩
abbrev cX5_entryPart : ByteArray := prog_7_method_22_code
def yX5_entryPart : MethodName := ⟨RX5, "entryPart", "(III)I"⟩
abbrev cX5_besidePart : ByteArray := prog_7_method_23_code
def yX5_besidePart : MethodName := ⟨RX5, "besidePart", "(III)I"⟩
abbrev cX5_entryKeys : ByteArray := prog_7_method_24_code
def yX5_entryKeys : MethodName := ⟨RX5, "entryKeys", "(I)I"⟩
abbrev cX5_countThere : ByteArray := prog_7_method_25_code
def yX5_countThere : MethodName := ⟨RX5, "countThere", "(I)I"⟩
abbrev cX5_valueOf : ByteArray := prog_7_method_26_code
def yX5_valueOf : MethodName := ⟨RX5, "valueOf", "(I)I"⟩
abbrev cX5_wasWritten : ByteArray := prog_7_method_27_code
def yX5_wasWritten : MethodName := ⟨RX5, "wasWritten", "(III)Z"⟩
abbrev cX5_storeVersion : ByteArray := prog_7_method_28_code
def yX5_storeVersion : MethodName := ⟨RX5, "storeVersion", "(II)I"⟩
abbrev cX5_lastWriteUpTo : ByteArray := prog_7_method_29_code
def yX5_lastWriteUpTo : MethodName := ⟨RX5, "lastWriteUpTo", "(II)I"⟩
abbrev cX5_lastWriteBy : ByteArray := prog_7_method_30_code
def yX5_lastWriteBy : MethodName := ⟨RX5, "lastWriteBy", "(II)I"⟩
abbrev cX5_isWriteBy : ByteArray := prog_7_method_31_code
def yX5_isWriteBy : MethodName := ⟨RX5, "isWriteBy", "(III)Z"⟩
abbrev cX5_writesBehind : ByteArray := prog_7_method_32_code
def yX5_writesBehind : MethodName := ⟨RX5, "writesBehind", "(II)I"⟩
abbrev cX5_leastKey : ByteArray := prog_7_method_33_code
def yX5_leastKey : MethodName := ⟨RX5, "leastKey", "(II)I"⟩
abbrev cX5_outdatedKeys : ByteArray := prog_7_method_34_code
def yX5_outdatedKeys : MethodName := ⟨RX5, "outdatedKeys", "(I)I"⟩
abbrev cX5_outdatedGroups : ByteArray := prog_7_method_35_code
def yX5_outdatedGroups : MethodName := ⟨RX5, "outdatedGroups", "()I"⟩
abbrev cX5_hotKey : ByteArray := prog_7_method_36_code
def yX5_hotKey : MethodName := ⟨RX5, "hotKey", "(I)I"⟩
abbrev cX5_hotterThan : ByteArray := prog_7_method_37_code
def yX5_hotterThan : MethodName := ⟨RX5, "hotterThan", "(I)I"⟩
abbrev cX5_dueCode : ByteArray := prog_7_method_38_code
def yX5_dueCode : MethodName := ⟨RX5, "dueCode", "(I)I"⟩
abbrev cX5_dueCodeBehind : ByteArray := prog_7_method_39_code
def yX5_dueCodeBehind : MethodName := ⟨RX5, "dueCodeBehind", "(I)I"⟩
abbrev cX5_endOfDue : ByteArray := prog_7_method_40_code
def yX5_endOfDue : MethodName := ⟨RX5, "endOfDue", "(I)I"⟩
abbrev cX5_kindOfDue : ByteArray := prog_7_method_41_code
def yX5_kindOfDue : MethodName := ⟨RX5, "kindOfDue", "(I)I"⟩
abbrev cX5_spotOfDue : ByteArray := prog_7_method_42_code
def yX5_spotOfDue : MethodName := ⟨RX5, "spotOfDue", "(I)I"⟩
abbrev cX5_obtain : ByteArray := prog_7_method_43_code
def yX5_obtain : MethodName := ⟨RX5, "obtain", "(II)I"⟩
abbrev cX5_useEntry : ByteArray := prog_7_method_44_code
def yX5_useEntry : MethodName := ⟨RX5, "useEntry", "(I)V"⟩
abbrev cX5_answerBesideLease : ByteArray := prog_7_method_45_code
def yX5_answerBesideLease : MethodName := ⟨RX5, "answerBesideLease", "(I)I"⟩
abbrev cX5_giveLease : ByteArray := prog_7_method_46_code
def yX5_giveLease : MethodName := ⟨RX5, "giveLease", "(II)I"⟩
abbrev cX5_takeHand : ByteArray := prog_7_method_47_code
def yX5_takeHand : MethodName := ⟨RX5, "takeHand", "(III)V"⟩
abbrev cX5_endHand : ByteArray := prog_7_method_48_code
def yX5_endHand : MethodName := ⟨RX5, "endHand", "(I)V"⟩
abbrev cX5_lookUp : ByteArray := prog_7_method_49_code
def yX5_lookUp : MethodName := ⟨RX5, "lookUp", "(I)I"⟩
abbrev cX5_isWarmBeside : ByteArray := prog_7_method_50_code
def yX5_isWarmBeside : MethodName := ⟨RX5, "isWarmBeside", "(I)Z"⟩
abbrev cX5_keepInHand : ByteArray := prog_7_method_51_code
def yX5_keepInHand : MethodName := ⟨RX5, "keepInHand", "(IIII)I"⟩
abbrev cX5_bringIn : ByteArray := prog_7_method_52_code
def yX5_bringIn : MethodName := ⟨RX5, "bringIn", "(I)I"⟩
abbrev cX5_isVoid : ByteArray := prog_7_method_53_code
def yX5_isVoid : MethodName := ⟨RX5, "isVoid", "(II)Z"⟩
abbrev cX5_install : ByteArray := prog_7_method_54_code
def yX5_install : MethodName := ⟨RX5, "install", "(IIIII)V"⟩
abbrev cX5_writeDown : ByteArray := prog_7_method_55_code
def yX5_writeDown : MethodName := ⟨RX5, "writeDown", "(III)I"⟩
abbrev cX5_strike : ByteArray := prog_7_method_56_code
def yX5_strike : MethodName := ⟨RX5, "strike", "(II)V"⟩
abbrev cX5_endIn : ByteArray := prog_7_method_57_code
def yX5_endIn : MethodName := ⟨RX5, "endIn", "(I)I"⟩
abbrev cX5_applyNext : ByteArray := prog_7_method_58_code
def yX5_applyNext : MethodName := ⟨RX5, "applyNext", "(I)I"⟩
abbrev cX5_applyAll : ByteArray := prog_7_method_59_code
def yX5_applyAll : MethodName := ⟨RX5, "applyAll", "()I"⟩
abbrev cX5_pass : ByteArray := prog_7_method_60_code
def yX5_pass : MethodName := ⟨RX5, "pass", "(I)I"⟩
abbrev cX5_passToFirstDue : ByteArray := prog_7_method_61_code
def yX5_passToFirstDue : MethodName := ⟨RX5, "passToFirstDue", "()I"⟩
abbrev cX5_turn : ByteArray := prog_7_method_62_code
def yX5_turn : MethodName := ⟨RX5, "turn", "(II)I"⟩
abbrev cX5_move : ByteArray := prog_7_method_63_code
def yX5_move : MethodName := ⟨RX5, "move", "(II)I"⟩
abbrev cX5_change : ByteArray := prog_7_method_64_code
def yX5_change : MethodName := ⟨RX5, "change", "(II)I"⟩
abbrev cX5_tryKey : ByteArray := prog_7_method_65_code
def yX5_tryKey : MethodName := ⟨RX5, "tryKey", "(III)Z"⟩
def RX6 : String := "LookAsideCache"
def TX6 : u_T := fun k => match k with
  | 0 => ("LookAsideCache", "world", "LLookAsideCache$World;", true)
  | 1 => ("LookAsideCache", "thought", "LLookAsideCache$World;", true)
  | 2 => ("LookAsideCache", "history", "LLookAsideCache$History;", true)
  | 3 => ("LookAsideCache", "storming", "LLookAsideCache$Storm;", true)
  | 4 => ("LookAsideCache", "ordering", "LLookAsideCache$Orders;", true)
  | 5 => ("LookAsideCache", "tape", "LLookAsideCache$Tape;", true)
  | 6 => ("LookAsideCache", "plans", "[LLookAsideCache$Plan;", true)
  | 7 => ("LookAsideCache", "rows", "[[J", true)
  | 8 => ("LookAsideCache", "rowSizes", "[I", true)
  | 9 => ("LookAsideCache", "sparePlan", "LLookAsideCache$Plan;", false)
  | _ => ("LookAsideCache", "kept", "[I", false)
def tyX6 : Nat → FieldType := fun k => match k with
  | 0 => .object "LookAsideCache$World"
  | 1 => .object "LookAsideCache$World"
  | 2 => .object "LookAsideCache$History"
  | 3 => .object "LookAsideCache$Storm"
  | 4 => .object "LookAsideCache$Orders"
  | 5 => .object "LookAsideCache$Tape"
  | 6 => .array (.object "LookAsideCache$Plan")
  | 7 => .array (.array .long)
  | 8 => .array .int
  | 9 => .object "LookAsideCache$Plan"
  | _ => .array .int
abbrev wsX60 : List Cond := u_ws RX6 TX6 11
theorem nmX6 : ∀ a, a < 11 → ∀ b, b < 11 → a ≠ b → (TX6 a).2.1 ≠ (TX6 b).2.1 := by decide +kernel
theorem tyX6_ok : ∀ k, k < 11 → parseFieldDescriptor (TX6 k).2.2.1 = some (tyX6 k) := by decide +kernel
abbrev cX6_init : ByteArray := prog_1_method_1_code
def yX6_init : MethodName := ⟨RX6, "<init>", "()V"⟩
abbrev cX6_get : ByteArray := prog_1_method_2_code
def yX6_get : MethodName := ⟨RX6, "get", "(II)I"⟩
abbrev cX6_look : ByteArray := prog_1_method_3_code
def yX6_look : MethodName := ⟨RX6, "look", "(I)I"⟩
abbrev cX6_fill : ByteArray := prog_1_method_4_code
def yX6_fill : MethodName := ⟨RX6, "fill", "(I)I"⟩
abbrev cX6_write : ByteArray := prog_1_method_5_code
def yX6_write : MethodName := ⟨RX6, "write", "(III)I"⟩
abbrev cX6_apply : ByteArray := prog_1_method_6_code
def yX6_apply : MethodName := ⟨RX6, "apply", "(I)I"⟩
abbrev cX6_tick : ByteArray := prog_1_method_7_code
def yX6_tick : MethodName := ⟨RX6, "tick", "(I)I"⟩
abbrev cX6_cold : ByteArray := prog_1_method_8_code
def yX6_cold : MethodName := ⟨RX6, "cold", "(II)I"⟩
abbrev cX6_go : ByteArray := prog_1_method_9_code
def yX6_go : MethodName := ⟨RX6, "go", "(II)I"⟩
abbrev cX6_set : ByteArray := prog_1_method_10_code
def yX6_set : MethodName := ⟨RX6, "set", "(II)I"⟩
abbrev cX6_next : ByteArray := prog_1_method_11_code
def yX6_next : MethodName := ⟨RX6, "next", "()I"⟩
abbrev cX6_undo : ByteArray := prog_1_method_12_code
def yX6_undo : MethodName := ⟨RX6, "undo", "()I"⟩
abbrev cX6_redo : ByteArray := prog_1_method_13_code
def yX6_redo : MethodName := ⟨RX6, "redo", "()I"⟩
abbrev cX6_setting : ByteArray := prog_1_method_14_code
def yX6_setting : MethodName := ⟨RX6, "setting", "(I)I"⟩
abbrev cX6_entry : ByteArray := prog_1_method_15_code
def yX6_entry : MethodName := ⟨RX6, "entry", "(III)I"⟩
abbrev cX6_beside : ByteArray := prog_1_method_16_code
def yX6_beside : MethodName := ⟨RX6, "beside", "(III)I"⟩
abbrev cX6_client : ByteArray := prog_1_method_17_code
def yX6_client : MethodName := ⟨RX6, "client", "(II)I"⟩
abbrev cX6_store : ByteArray := prog_1_method_18_code
def yX6_store : MethodName := ⟨RX6, "store", "(III)I"⟩
abbrev cX6_region : ByteArray := prog_1_method_19_code
def yX6_region : MethodName := ⟨RX6, "region", "(II)I"⟩
abbrev cX6_within : ByteArray := prog_1_method_20_code
def yX6_within : MethodName := ⟨RX6, "within", "(III)I"⟩
abbrev cX6_least : ByteArray := prog_1_method_21_code
def yX6_least : MethodName := ⟨RX6, "least", "(II)I"⟩
abbrev cX6_outdated : ByteArray := prog_1_method_22_code
def yX6_outdated : MethodName := ⟨RX6, "outdated", "(I)I"⟩
abbrev cX6_lag : ByteArray := prog_1_method_23_code
def yX6_lag : MethodName := ⟨RX6, "lag", "(II)I"⟩
abbrev cX6_own : ByteArray := prog_1_method_24_code
def yX6_own : MethodName := ⟨RX6, "own", "(II)I"⟩
abbrev cX6_due : ByteArray := prog_1_method_25_code
def yX6_due : MethodName := ⟨RX6, "due", "(II)I"⟩
abbrev cX6_hottest : ByteArray := prog_1_method_26_code
def yX6_hottest : MethodName := ⟨RX6, "hottest", "(I)I"⟩
abbrev cX6_led : ByteArray := prog_1_method_27_code
def yX6_led : MethodName := ⟨RX6, "led", "(I)I"⟩
abbrev cX6_storm : ByteArray := prog_1_method_28_code
def yX6_storm : MethodName := ⟨RX6, "storm", "(IIII)I"⟩
abbrev cX6_settled : ByteArray := prog_1_method_29_code
def yX6_settled : MethodName := ⟨RX6, "settled", "(I)I"⟩
abbrev cX6_tried : ByteArray := prog_1_method_30_code
def yX6_tried : MethodName := ⟨RX6, "tried", "(III)I"⟩
abbrev cX6_best : ByteArray := prog_1_method_31_code
def yX6_best : MethodName := ⟨RX6, "best", "(II)I"⟩
abbrev cX6_foreseen : ByteArray := prog_1_method_32_code
def yX6_foreseen : MethodName := ⟨RX6, "foreseen", "(II)I"⟩
abbrev cX6_feed : ByteArray := prog_1_method_33_code
def yX6_feed : MethodName := ⟨RX6, "feed", "(I)I"⟩
abbrev cX6_plan : ByteArray := prog_1_method_34_code
def yX6_plan : MethodName := ⟨RX6, "plan", "(I)I"⟩
abbrev cX6_orders : ByteArray := prog_1_method_35_code
def yX6_orders : MethodName := ⟨RX6, "orders", "(III)I"⟩
abbrev cX6_witness : ByteArray := prog_1_method_36_code
def yX6_witness : MethodName := ⟨RX6, "witness", "(II)I"⟩
abbrev cX6_row : ByteArray := prog_1_method_37_code
def yX6_row : MethodName := ⟨RX6, "row", "(II)I"⟩
abbrev cX6_put : ByteArray := prog_1_method_38_code
def yX6_put : MethodName := ⟨RX6, "put", "(IIJ)I"⟩
abbrev cX6_element : ByteArray := prog_1_method_39_code
def yX6_element : MethodName := ⟨RX6, "element", "(II)J"⟩
abbrev cX6_save : ByteArray := prog_1_method_40_code
def yX6_save : MethodName := ⟨RX6, "save", "(III)I"⟩
abbrev cX6_restore : ByteArray := prog_1_method_41_code
def yX6_restore : MethodName := ⟨RX6, "restore", "(IIII)I"⟩
abbrev cX6_image : ByteArray := prog_1_method_42_code
def yX6_image : MethodName := ⟨RX6, "image", "()I"⟩
abbrev cX6_back : ByteArray := prog_1_method_43_code
def yX6_back : MethodName := ⟨RX6, "back", "()I"⟩
abbrev cX6_count : ByteArray := prog_1_method_44_code
def yX6_count : MethodName := ⟨RX6, "count", "(I)I"⟩
abbrev cX6_below : ByteArray := prog_1_method_45_code
def yX6_below : MethodName := ⟨RX6, "below", "(II)Z"⟩
abbrev cX6_noted : ByteArray := prog_1_method_46_code
def yX6_noted : MethodName := ⟨RX6, "noted", "(I)I"⟩
abbrev cX6_placeRefusal : ByteArray := prog_1_method_47_code
def yX6_placeRefusal : MethodName := ⟨RX6, "placeRefusal", "(II)I"⟩
abbrev cX6_keysAhead : ByteArray := prog_1_method_48_code
def yX6_keysAhead : MethodName := ⟨RX6, "keysAhead", "(I)I"⟩
abbrev cX6_hitsTried : ByteArray := prog_1_method_49_code
def yX6_hitsTried : MethodName := ⟨RX6, "hitsTried", "(III)I"⟩
abbrev cX6_hitsForeseen : ByteArray := prog_1_method_50_code
def yX6_hitsForeseen : MethodName := ⟨RX6, "hitsForeseen", "([JII)I"⟩
abbrev cX6_wantedLast : ByteArray := prog_1_method_51_code
def yX6_wantedLast : MethodName := ⟨RX6, "wantedLast", "([JIII)I"⟩
abbrev cX6_arePlanners : ByteArray := prog_1_method_52_code
def yX6_arePlanners : MethodName := ⟨RX6, "arePlanners", "(I)Z"⟩
abbrev cX6_actsOf : ByteArray := prog_1_method_53_code
def yX6_actsOf : MethodName := ⟨RX6, "actsOf", "(I)I"⟩
abbrev cX6_plansThere : ByteArray := prog_1_method_54_code
def yX6_plansThere : MethodName := ⟨RX6, "plansThere", "()I"⟩
abbrev cX6_savedLong : ByteArray := prog_1_method_55_code
def yX6_savedLong : MethodName := ⟨RX6, "savedLong", "(II)J"⟩
abbrev cX6_restoreOne : ByteArray := prog_1_method_56_code
def yX6_restoreOne : MethodName := ⟨RX6, "restoreOne", "(JI)Z"⟩
def RX7 : String := "LookAsideCacheModel"
def TX7 : u_T := fun k => match k with
  | 0 => ("LookAsideCacheModel", "s", "[I", true)
  | 1 => ("LookAsideCacheModel", "kept", "[I", true)
  | 2 => ("LookAsideCacheModel", "done", "I", false)
  | 3 => ("LookAsideCacheModel", "keptMany", "I", false)
  | 4 => ("LookAsideCacheModel", "tape", "[I", true)
  | 5 => ("LookAsideCacheModel", "length", "I", false)
  | 6 => ("LookAsideCacheModel", "at", "I", false)
  | 7 => ("LookAsideCacheModel", "fault", "I", false)
  | 8 => ("LookAsideCacheModel", "drafts", "[I", true)
  | 9 => ("LookAsideCacheModel", "plans", "[I", true)
  | 10 => ("LookAsideCacheModel", "planSize", "[I", true)
  | 11 => ("LookAsideCacheModel", "verbs", "[J", true)
  | 12 => ("LookAsideCacheModel", "from", "[I", true)
  | 13 => ("LookAsideCacheModel", "order", "[I", true)
  | 14 => ("LookAsideCacheModel", "witnessed", "[I", true)
  | 15 => ("LookAsideCacheModel", "doneOf", "[I", true)
  | 16 => ("LookAsideCacheModel", "found", "[Z", true)
  | 17 => ("LookAsideCacheModel", "acts", "I", false)
  | 18 => ("LookAsideCacheModel", "many", "I", false)
  | 19 => ("LookAsideCacheModel", "outdatedMany", "I", false)
  | 20 => ("LookAsideCacheModel", "fewest", "I", false)
  | 21 => ("LookAsideCacheModel", "most", "I", false)
  | 22 => ("LookAsideCacheModel", "unlike", "I", false)
  | 23 => ("LookAsideCacheModel", "has", "[Z", true)
  | 24 => ("LookAsideCacheModel", "looks", "[Z", true)
  | 25 => ("LookAsideCacheModel", "held", "[Z", true)
  | 26 => ("LookAsideCacheModel", "rows", "[J", true)
  | 27 => ("LookAsideCacheModel", "sizes", "[I", true)
  | 28 => ("LookAsideCacheModel", "image", "[I", true)
  | _ => ("LookAsideCacheModel", "isKept", "Z", false)
def tyX7 : Nat → FieldType := fun k => match k with
  | 0 => .array .int
  | 1 => .array .int
  | 2 => .int
  | 3 => .int
  | 4 => .array .int
  | 5 => .int
  | 6 => .int
  | 7 => .int
  | 8 => .array .int
  | 9 => .array .int
  | 10 => .array .int
  | 11 => .array .long
  | 12 => .array .int
  | 13 => .array .int
  | 14 => .array .int
  | 15 => .array .int
  | 16 => .array .boolean
  | 17 => .int
  | 18 => .int
  | 19 => .int
  | 20 => .int
  | 21 => .int
  | 22 => .int
  | 23 => .array .boolean
  | 24 => .array .boolean
  | 25 => .array .boolean
  | 26 => .array .long
  | 27 => .array .int
  | 28 => .array .int
  | _ => .boolean
abbrev wsX70 : List Cond := u_ws RX7 TX7 30
theorem nmX7 : ∀ a, a < 30 → ∀ b, b < 30 → a ≠ b → (TX7 a).2.1 ≠ (TX7 b).2.1 := by decide +kernel
theorem tyX7_ok : ∀ k, k < 30 → parseFieldDescriptor (TX7 k).2.2.1 = some (tyX7 k) := by decide +kernel
abbrev cX7_init : ByteArray := prog_9_method_1_code
def yX7_init : MethodName := ⟨RX7, "<init>", "()V"⟩
abbrev cX7_in : ByteArray := prog_9_method_2_code
def yX7_in : MethodName := ⟨RX7, "in", "(JJJ)Z"⟩
abbrev cX7_isClient : ByteArray := prog_9_method_3_code
def yX7_isClient : MethodName := ⟨RX7, "isClient", "(I)Z"⟩
abbrev cX7_isGroup : ByteArray := prog_9_method_4_code
def yX7_isGroup : MethodName := ⟨RX7, "isGroup", "(I)Z"⟩
abbrev cX7_isKey : ByteArray := prog_9_method_5_code
def yX7_isKey : MethodName := ⟨RX7, "isKey", "(I)Z"⟩
abbrev cX7_isRegion : ByteArray := prog_9_method_6_code
def yX7_isRegion : MethodName := ⟨RX7, "isRegion", "(I)Z"⟩
abbrev cX7_hand : ByteArray := prog_9_method_7_code
def yX7_hand : MethodName := ⟨RX7, "hand", "(I)I"⟩
abbrev cX7_entryAt : ByteArray := prog_9_method_8_code
def yX7_entryAt : MethodName := ⟨RX7, "entryAt", "(II)I"⟩
abbrev cX7_oldAt : ByteArray := prog_9_method_9_code
def yX7_oldAt : MethodName := ⟨RX7, "oldAt", "(II)I"⟩
abbrev cX7_leaseAt : ByteArray := prog_9_method_10_code
def yX7_leaseAt : MethodName := ⟨RX7, "leaseAt", "(II)I"⟩
abbrev cX7_holdAt : ByteArray := prog_9_method_11_code
def yX7_holdAt : MethodName := ⟨RX7, "holdAt", "(II)I"⟩
abbrev cX7_isThere : ByteArray := prog_9_method_12_code
def yX7_isThere : MethodName := ⟨RX7, "isThere", "(I)Z"⟩
abbrev cX7_groupOf : ByteArray := prog_9_method_13_code
def yX7_groupOf : MethodName := ⟨RX7, "groupOf", "(I)I"⟩
abbrev cX7_keyOf : ByteArray := prog_9_method_14_code
def yX7_keyOf : MethodName := ⟨RX7, "keyOf", "(I)I"⟩
abbrev cX7_valueOf : ByteArray := prog_9_method_15_code
def yX7_valueOf : MethodName := ⟨RX7, "valueOf", "(I)I"⟩
abbrev cX7_lastOf : ByteArray := prog_9_method_16_code
def yX7_lastOf : MethodName := ⟨RX7, "lastOf", "(II)I"⟩
abbrev cX7_storeVersion : ByteArray := prog_9_method_17_code
def yX7_storeVersion : MethodName := ⟨RX7, "storeVersion", "(II)I"⟩
abbrev cX7_doGet : ByteArray := prog_9_method_18_code
def yX7_doGet : MethodName := ⟨RX7, "doGet", "(II)I"⟩
abbrev cX7_doLook : ByteArray := prog_9_method_19_code
def yX7_doLook : MethodName := ⟨RX7, "doLook", "(I)I"⟩
abbrev cX7_entriesIn : ByteArray := prog_9_method_20_code
def yX7_entriesIn : MethodName := ⟨RX7, "entriesIn", "(I)I"⟩
abbrev cX7_leastIn : ByteArray := prog_9_method_21_code
def yX7_leastIn : MethodName := ⟨RX7, "leastIn", "(II)I"⟩
abbrev cX7_fills : ByteArray := prog_9_method_22_code
def yX7_fills : MethodName := ⟨RX7, "fills", "(IIII)V"⟩
abbrev cX7_doFill : ByteArray := prog_9_method_23_code
def yX7_doFill : MethodName := ⟨RX7, "doFill", "(I)I"⟩
abbrev cX7_deletes : ByteArray := prog_9_method_24_code
def yX7_deletes : MethodName := ⟨RX7, "deletes", "(II)V"⟩
abbrev cX7_doWrite : ByteArray := prog_9_method_25_code
def yX7_doWrite : MethodName := ⟨RX7, "doWrite", "(III)I"⟩
abbrev cX7_doApply : ByteArray := prog_9_method_26_code
def yX7_doApply : MethodName := ⟨RX7, "doApply", "(I)I"⟩
abbrev cX7_doCold : ByteArray := prog_9_method_27_code
def yX7_doCold : MethodName := ⟨RX7, "doCold", "(II)V"⟩
abbrev cX7_told : ByteArray := prog_9_method_28_code
def yX7_told : MethodName := ⟨RX7, "told", "(I)I"⟩
abbrev cX7_undo : ByteArray := prog_9_method_29_code
def yX7_undo : MethodName := ⟨RX7, "undo", "()I"⟩
abbrev cX7_redo : ByteArray := prog_9_method_30_code
def yX7_redo : MethodName := ⟨RX7, "redo", "()I"⟩
abbrev cX7_get : ByteArray := prog_9_method_31_code
def yX7_get : MethodName := ⟨RX7, "get", "(II)I"⟩
abbrev cX7_look : ByteArray := prog_9_method_32_code
def yX7_look : MethodName := ⟨RX7, "look", "(I)I"⟩
abbrev cX7_fill : ByteArray := prog_9_method_33_code
def yX7_fill : MethodName := ⟨RX7, "fill", "(I)I"⟩
abbrev cX7_write : ByteArray := prog_9_method_34_code
def yX7_write : MethodName := ⟨RX7, "write", "(III)I"⟩
abbrev cX7_apply : ByteArray := prog_9_method_35_code
def yX7_apply : MethodName := ⟨RX7, "apply", "(I)I"⟩
abbrev cX7_tick : ByteArray := prog_9_method_36_code
def yX7_tick : MethodName := ⟨RX7, "tick", "(I)I"⟩
abbrev cX7_cold : ByteArray := prog_9_method_37_code
def yX7_cold : MethodName := ⟨RX7, "cold", "(II)I"⟩
abbrev cX7_go : ByteArray := prog_9_method_38_code
def yX7_go : MethodName := ⟨RX7, "go", "(II)I"⟩
abbrev cX7_set : ByteArray := prog_9_method_39_code
def yX7_set : MethodName := ⟨RX7, "set", "(II)I"⟩
abbrev cX7_setting : ByteArray := prog_9_method_40_code
def yX7_setting : MethodName := ⟨RX7, "setting", "(I)I"⟩
abbrev cX7_entry : ByteArray := prog_9_method_41_code
def yX7_entry : MethodName := ⟨RX7, "entry", "(III)I"⟩
abbrev cX7_beside : ByteArray := prog_9_method_42_code
def yX7_beside : MethodName := ⟨RX7, "beside", "(III)I"⟩
abbrev cX7_client : ByteArray := prog_9_method_43_code
def yX7_client : MethodName := ⟨RX7, "client", "(II)I"⟩
abbrev cX7_store : ByteArray := prog_9_method_44_code
def yX7_store : MethodName := ⟨RX7, "store", "(III)I"⟩
abbrev cX7_region : ByteArray := prog_9_method_45_code
def yX7_region : MethodName := ⟨RX7, "region", "(II)I"⟩
abbrev cX7_within : ByteArray := prog_9_method_46_code
def yX7_within : MethodName := ⟨RX7, "within", "(III)I"⟩
abbrev cX7_least : ByteArray := prog_9_method_47_code
def yX7_least : MethodName := ⟨RX7, "least", "(II)I"⟩
abbrev cX7_isOutdated : ByteArray := prog_9_method_48_code
def yX7_isOutdated : MethodName := ⟨RX7, "isOutdated", "(II)Z"⟩
abbrev cX7_outdated : ByteArray := prog_9_method_49_code
def yX7_outdated : MethodName := ⟨RX7, "outdated", "(I)I"⟩
abbrev cX7_lag : ByteArray := prog_9_method_50_code
def yX7_lag : MethodName := ⟨RX7, "lag", "(II)I"⟩
abbrev cX7_own : ByteArray := prog_9_method_51_code
def yX7_own : MethodName := ⟨RX7, "own", "(II)I"⟩
abbrev cX7_startOf : ByteArray := prog_9_method_52_code
def yX7_startOf : MethodName := ⟨RX7, "startOf", "(III)I"⟩
abbrev cX7_dueAt : ByteArray := prog_9_method_53_code
def yX7_dueAt : MethodName := ⟨RX7, "dueAt", "(I)J"⟩
abbrev cX7_due : ByteArray := prog_9_method_54_code
def yX7_due : MethodName := ⟨RX7, "due", "(II)I"⟩
abbrev cX7_next : ByteArray := prog_9_method_55_code
def yX7_next : MethodName := ⟨RX7, "next", "()I"⟩
abbrev cX7_hottest : ByteArray := prog_9_method_56_code
def yX7_hottest : MethodName := ⟨RX7, "hottest", "(I)I"⟩
abbrev cX7_led : ByteArray := prog_9_method_57_code
def yX7_led : MethodName := ⟨RX7, "led", "(I)I"⟩
abbrev cX7_feed : ByteArray := prog_9_method_58_code
def yX7_feed : MethodName := ⟨RX7, "feed", "(I)I"⟩
abbrev cX7_isFigure : ByteArray := prog_9_method_59_code
def yX7_isFigure : MethodName := ⟨RX7, "isFigure", "()Z"⟩
abbrev cX7_wrong : ByteArray := prog_9_method_60_code
def yX7_wrong : MethodName := ⟨RX7, "wrong", "(I)V"⟩
abbrev cX7_number : ByteArray := prog_9_method_61_code
def yX7_number : MethodName := ⟨RX7, "number", "(II)I"⟩
abbrev cX7_word : ByteArray := prog_9_method_62_code
def yX7_word : MethodName := ⟨RX7, "word", "()J"⟩
abbrev cX7_readsAct : ByteArray := prog_9_method_63_code
def yX7_readsAct : MethodName := ⟨RX7, "readsAct", "(I)V"⟩
abbrev cX7_plan : ByteArray := prog_9_method_64_code
def yX7_plan : MethodName := ⟨RX7, "plan", "(I)I"⟩
abbrev cX7_does : ByteArray := prog_9_method_65_code
def yX7_does : MethodName := ⟨RX7, "does", "(II)V"⟩
abbrev cX7_actsOf : ByteArray := prog_9_method_66_code
def yX7_actsOf : MethodName := ⟨RX7, "actsOf", "(I)I"⟩
abbrev cX7_firstOrder : ByteArray := prog_9_method_67_code
def yX7_firstOrder : MethodName := ⟨RX7, "firstOrder", "(I)V"⟩
abbrev cX7_nextOrder : ByteArray := prog_9_method_68_code
def yX7_nextOrder : MethodName := ⟨RX7, "nextOrder", "()Z"⟩
abbrev cX7_loads : ByteArray := prog_9_method_69_code
def yX7_loads : MethodName := ⟨RX7, "loads", "()I"⟩
abbrev cX7_goesThrough : ByteArray := prog_9_method_70_code
def yX7_goesThrough : MethodName := ⟨RX7, "goesThrough", "(II)V"⟩
abbrev cX7_judges : ByteArray := prog_9_method_71_code
def yX7_judges : MethodName := ⟨RX7, "judges", "(II)V"⟩
abbrev cX7_orders : ByteArray := prog_9_method_72_code
def yX7_orders : MethodName := ⟨RX7, "orders", "(III)I"⟩
abbrev cX7_witness : ByteArray := prog_9_method_73_code
def yX7_witness : MethodName := ⟨RX7, "witness", "(II)I"⟩
abbrev cX7_allHave : ByteArray := prog_9_method_74_code
def yX7_allHave : MethodName := ⟨RX7, "allHave", "(I)Z"⟩
abbrev cX7_stormRound : ByteArray := prog_9_method_75_code
def yX7_stormRound : MethodName := ⟨RX7, "stormRound", "(III)V"⟩
abbrev cX7_storm : ByteArray := prog_9_method_76_code
def yX7_storm : MethodName := ⟨RX7, "storm", "(IIII)I"⟩
abbrev cX7_settled : ByteArray := prog_9_method_77_code
def yX7_settled : MethodName := ⟨RX7, "settled", "(I)I"⟩
abbrev cX7_lookAtRow : ByteArray := prog_9_method_78_code
def yX7_lookAtRow : MethodName := ⟨RX7, "lookAtRow", "(I)I"⟩
abbrev cX7_hitsBy : ByteArray := prog_9_method_79_code
def yX7_hitsBy : MethodName := ⟨RX7, "hitsBy", "(III)I"⟩
abbrev cX7_tried : ByteArray := prog_9_method_80_code
def yX7_tried : MethodName := ⟨RX7, "tried", "(III)I"⟩
abbrev cX7_best : ByteArray := prog_9_method_81_code
def yX7_best : MethodName := ⟨RX7, "best", "(II)I"⟩
abbrev cX7_nextOf : ByteArray := prog_9_method_82_code
def yX7_nextOf : MethodName := ⟨RX7, "nextOf", "(III)I"⟩
abbrev cX7_foreseen : ByteArray := prog_9_method_83_code
def yX7_foreseen : MethodName := ⟨RX7, "foreseen", "(II)I"⟩
abbrev cX7_isShelf : ByteArray := prog_9_method_84_code
def yX7_isShelf : MethodName := ⟨RX7, "isShelf", "(I)Z"⟩
abbrev cX7_row : ByteArray := prog_9_method_85_code
def yX7_row : MethodName := ⟨RX7, "row", "(II)I"⟩
abbrev cX7_refusal : ByteArray := prog_9_method_86_code
def yX7_refusal : MethodName := ⟨RX7, "refusal", "(II)I"⟩
abbrev cX7_put : ByteArray := prog_9_method_87_code
def yX7_put : MethodName := ⟨RX7, "put", "(IIJ)I"⟩
abbrev cX7_element : ByteArray := prog_9_method_88_code
def yX7_element : MethodName := ⟨RX7, "element", "(II)J"⟩
abbrev cX7_save : ByteArray := prog_9_method_89_code
def yX7_save : MethodName := ⟨RX7, "save", "(III)I"⟩
abbrev cX7_restore : ByteArray := prog_9_method_90_code
def yX7_restore : MethodName := ⟨RX7, "restore", "(IIII)I"⟩
abbrev cX7_restores : ByteArray := prog_9_method_91_code
def yX7_restores : MethodName := ⟨RX7, "restores", "(JI)Z"⟩
abbrev cX7_image : ByteArray := prog_9_method_92_code
def yX7_image : MethodName := ⟨RX7, "image", "()I"⟩
abbrev cX7_back : ByteArray := prog_9_method_93_code
def yX7_back : MethodName := ⟨RX7, "back", "()I"⟩
abbrev cX7_count : ByteArray := prog_9_method_94_code
def yX7_count : MethodName := ⟨RX7, "count", "(I)I"⟩
def RJx145de : String := "java/io/Serializable"
def TJx145de : u_T := fun k => match k with
  | _ => ("", "", "", false)
def tyJx145de : Nat → FieldType := fun k => match k with
  | _ => .int
abbrev wsJx145de0 : List Cond := u_ws RJx145de TJx145de 0
theorem nmJx145de : ∀ a, a < 0 → ∀ b, b < 0 → a ≠ b → (TJx145de a).2.1 ≠ (TJx145de b).2.1 := by decide +kernel
theorem tyJx145de_ok : ∀ k, k < 0 → parseFieldDescriptor (TJx145de k).2.2.1 = some (tyJx145de k) := by decide +kernel
def RJx9f9b0 : String := "java/lang/CharSequence"
def TJx9f9b0 : u_T := fun k => match k with
  | _ => ("", "", "", false)
def tyJx9f9b0 : Nat → FieldType := fun k => match k with
  | _ => .int
abbrev wsJx9f9b00 : List Cond := u_ws RJx9f9b0 TJx9f9b0 0
theorem nmJx9f9b0 : ∀ a, a < 0 → ∀ b, b < 0 → a ≠ b → (TJx9f9b0 a).2.1 ≠ (TJx9f9b0 b).2.1 := by decide +kernel
theorem tyJx9f9b0_ok : ∀ k, k < 0 → parseFieldDescriptor (TJx9f9b0 k).2.2.1 = some (tyJx9f9b0 k) := by decide +kernel
def RJxb160c : String := "java/lang/Comparable"
def TJxb160c : u_T := fun k => match k with
  | _ => ("", "", "", false)
def tyJxb160c : Nat → FieldType := fun k => match k with
  | _ => .int
abbrev wsJxb160c0 : List Cond := u_ws RJxb160c TJxb160c 0
theorem nmJxb160c : ∀ a, a < 0 → ∀ b, b < 0 → a ≠ b → (TJxb160c a).2.1 ≠ (TJxb160c b).2.1 := by decide +kernel
theorem tyJxb160c_ok : ∀ k, k < 0 → parseFieldDescriptor (TJxb160c k).2.2.1 = some (tyJxb160c k) := by decide +kernel
def RJ6 : String := "java/lang/Integer"
def TJ6 : u_T := fun k => match k with
  | _ => ("", "", "", false)
def tyJ6 : Nat → FieldType := fun k => match k with
  | _ => .int
abbrev wsJ60 : List Cond := u_ws RJ6 TJ6 0
theorem nmJ6 : ∀ a, a < 0 → ∀ b, b < 0 → a ≠ b → (TJ6 a).2.1 ≠ (TJ6 b).2.1 := by decide +kernel
theorem tyJ6_ok : ∀ k, k < 0 → parseFieldDescriptor (TJ6 k).2.2.1 = some (tyJ6 k) := by decide +kernel
abbrev cJ6_bitCount_0f7a4 : ByteArray := prog_10_method_49_code
def yJ6_bitCount_0f7a4 : MethodName := ⟨RJ6, "bitCount", "(I)I"⟩
def RJ13 : String := "java/lang/Long"
def TJ13 : u_T := fun k => match k with
  | _ => ("", "", "", false)
def tyJ13 : Nat → FieldType := fun k => match k with
  | _ => .int
abbrev wsJ130 : List Cond := u_ws RJ13 TJ13 0
theorem nmJ13 : ∀ a, a < 0 → ∀ b, b < 0 → a ≠ b → (TJ13 a).2.1 ≠ (TJ13 b).2.1 := by decide +kernel
theorem tyJ13_ok : ∀ k, k < 0 → parseFieldDescriptor (TJ13 k).2.2.1 = some (tyJ13 k) := by decide +kernel
abbrev cJ13_bitCount_95d88 : ByteArray := prog_11_method_50_code
def yJ13_bitCount_95d88 : MethodName := ⟨RJ13, "bitCount", "(J)I"⟩
def RJ9 : String := "java/lang/Math"
def TJ9 : u_T := fun k => match k with
  | _ => ("", "", "", false)
def tyJ9 : Nat → FieldType := fun k => match k with
  | _ => .int
abbrev wsJ90 : List Cond := u_ws RJ9 TJ9 0
theorem nmJ9 : ∀ a, a < 0 → ∀ b, b < 0 → a ≠ b → (TJ9 a).2.1 ≠ (TJ9 b).2.1 := by decide +kernel
theorem tyJ9_ok : ∀ k, k < 0 → parseFieldDescriptor (TJ9 k).2.2.1 = some (tyJ9 k) := by decide +kernel
abbrev cJ9_max_7cf53 : ByteArray := prog_12_method_65_code
def yJ9_max_7cf53 : MethodName := ⟨RJ9, "max", "(II)I"⟩
abbrev cJ9_min_7cf53 : ByteArray := prog_12_method_69_code
def yJ9_min_7cf53 : MethodName := ⟨RJ9, "min", "(II)I"⟩
def RJ0 : String := "java/lang/String"
def TJ0 : u_T := fun k => match k with
  | _ => ("", "", "", false)
def tyJ0 : Nat → FieldType := fun k => match k with
  | _ => .int
abbrev wsJ00 : List Cond := u_ws RJ0 TJ0 0
theorem nmJ0 : ∀ a, a < 0 → ∀ b, b < 0 → a ≠ b → (TJ0 a).2.1 ≠ (TJ0 b).2.1 := by decide +kernel
theorem tyJ0_ok : ∀ k, k < 0 → parseFieldDescriptor (TJ0 k).2.2.1 = some (tyJ0 k) := by decide +kernel
abbrev cJ0_length_8abf5 : ByteArray := prog_13_method_54_code
def yJ0_length_8abf5 : MethodName := ⟨RJ0, "length", "()I"⟩
abbrev cJ0_charAt_5068e : ByteArray := prog_13_method_56_code
def yJ0_charAt_5068e : MethodName := ⟨RJ0, "charAt", "(I)C"⟩
abbrev cJ0_coder_7d493 : ByteArray := prog_13_method_152_code
def yJ0_coder_7d493 : MethodName := ⟨RJ0, "coder", "()B"⟩
abbrev cJ0_isLatin1_aae02 : ByteArray := prog_13_method_154_code
def yJ0_isLatin1_aae02 : MethodName := ⟨RJ0, "isLatin1", "()Z"⟩
abbrev cJ0_checkIndex_df160 : ByteArray := prog_13_method_155_code
def yJ0_checkIndex_df160 : MethodName := ⟨RJ0, "checkIndex", "(II)V"⟩
def RJ1 : String := "java/lang/StringLatin1"
def TJ1 : u_T := fun k => match k with
  | _ => ("", "", "", false)
def tyJ1 : Nat → FieldType := fun k => match k with
  | _ => .int
abbrev wsJ10 : List Cond := u_ws RJ1 TJ1 0
theorem nmJ1 : ∀ a, a < 0 → ∀ b, b < 0 → a ≠ b → (TJ1 a).2.1 ≠ (TJ1 b).2.1 := by decide +kernel
theorem tyJ1_ok : ∀ k, k < 0 → parseFieldDescriptor (TJ1 k).2.2.1 = some (tyJ1 k) := by decide +kernel
abbrev cJ1_charAt_3b067 : ByteArray := prog_14_method_2_code
def yJ1_charAt_3b067 : MethodName := ⟨RJ1, "charAt", "([BI)C"⟩
def RJ2 : String := "java/lang/StringUTF16"
def TJ2 : u_T := fun k => match k with
  | _ => ("", "", "", false)
def tyJ2 : Nat → FieldType := fun k => match k with
  | _ => .int
abbrev wsJ20 : List Cond := u_ws RJ2 TJ2 0
theorem nmJ2 : ∀ a, a < 0 → ∀ b, b < 0 → a ≠ b → (TJ2 a).2.1 ≠ (TJ2 b).2.1 := by decide +kernel
theorem tyJ2_ok : ∀ k, k < 0 → parseFieldDescriptor (TJ2 k).2.2.1 = some (tyJ2 k) := by decide +kernel
abbrev cJ2_getChar_3b067 : ByteArray := prog_15_method_5_code
def yJ2_getChar_3b067 : MethodName := ⟨RJ2, "getChar", "([BI)C"⟩
abbrev cJ2_length_9d52b : ByteArray := prog_15_method_6_code
def yJ2_length_9d52b : MethodName := ⟨RJ2, "length", "([B)I"⟩
abbrev cJ2_charAt_3b067 : ByteArray := prog_15_method_83_code
def yJ2_charAt_3b067 : MethodName := ⟨RJ2, "charAt", "([BI)C"⟩
abbrev cJ2_checkIndex_2214a : ByteArray := prog_15_method_91_code
def yJ2_checkIndex_2214a : MethodName := ⟨RJ2, "checkIndex", "(I[B)V"⟩
def RJ10 : String := "java/lang/System"
def TJ10 : u_T := fun k => match k with
  | _ => ("", "", "", false)
def tyJ10 : Nat → FieldType := fun k => match k with
  | _ => .int
abbrev wsJ100 : List Cond := u_ws RJ10 TJ10 0
theorem nmJ10 : ∀ a, a < 0 → ∀ b, b < 0 → a ≠ b → (TJ10 a).2.1 ≠ (TJ10 b).2.1 := by decide +kernel
theorem tyJ10_ok : ∀ k, k < 0 → parseFieldDescriptor (TJ10 k).2.2.1 = some (tyJ10 k) := by decide +kernel
def RJxfd54e : String := "java/lang/constant/Constable"
def TJxfd54e : u_T := fun k => match k with
  | _ => ("", "", "", false)
def tyJxfd54e : Nat → FieldType := fun k => match k with
  | _ => .int
abbrev wsJxfd54e0 : List Cond := u_ws RJxfd54e TJxfd54e 0
theorem nmJxfd54e : ∀ a, a < 0 → ∀ b, b < 0 → a ≠ b → (TJxfd54e a).2.1 ≠ (TJxfd54e b).2.1 := by decide +kernel
theorem tyJxfd54e_ok : ∀ k, k < 0 → parseFieldDescriptor (TJxfd54e k).2.2.1 = some (tyJxfd54e k) := by decide +kernel
def RJx3cf43 : String := "java/lang/constant/ConstantDesc"
def TJx3cf43 : u_T := fun k => match k with
  | _ => ("", "", "", false)
def tyJx3cf43 : Nat → FieldType := fun k => match k with
  | _ => .int
abbrev wsJx3cf430 : List Cond := u_ws RJx3cf43 TJx3cf43 0
theorem nmJx3cf43 : ∀ a, a < 0 → ∀ b, b < 0 → a ≠ b → (TJx3cf43 a).2.1 ≠ (TJx3cf43 b).2.1 := by decide +kernel
theorem tyJx3cf43_ok : ∀ k, k < 0 → parseFieldDescriptor (TJx3cf43 k).2.2.1 = some (tyJx3cf43 k) := by decide +kernel
def RJ7 : String := "java/util/Arrays"
def TJ7 : u_T := fun k => match k with
  | _ => ("", "", "", false)
def tyJ7 : Nat → FieldType := fun k => match k with
  | _ => .int
abbrev wsJ70 : List Cond := u_ws RJ7 TJ7 0
theorem nmJ7 : ∀ a, a < 0 → ∀ b, b < 0 → a ≠ b → (TJ7 a).2.1 ≠ (TJ7 b).2.1 := by decide +kernel
theorem tyJ7_ok : ∀ k, k < 0 → parseFieldDescriptor (TJ7 k).2.2.1 = some (tyJ7 k) := by decide +kernel
abbrev cJ7_fill_d0a16 : ByteArray := prog_17_method_101_code
def yJ7_fill_d0a16 : MethodName := ⟨RJ7, "fill", "([JJ)V"⟩
abbrev cJ7_fill_53178 : ByteArray := prog_17_method_103_code
def yJ7_fill_53178 : MethodName := ⟨RJ7, "fill", "([II)V"⟩
def RJ3 : String := "jdk/internal/util/Preconditions"
def TJ3 : u_T := fun k => match k with
  | _ => ("", "", "", false)
def tyJ3 : Nat → FieldType := fun k => match k with
  | _ => .int
abbrev wsJ30 : List Cond := u_ws RJ3 TJ3 0
theorem nmJ3 : ∀ a, a < 0 → ∀ b, b < 0 → a ≠ b → (TJ3 a).2.1 ≠ (TJ3 b).2.1 := by decide +kernel
theorem tyJ3_ok : ∀ k, k < 0 → parseFieldDescriptor (TJ3 k).2.2.1 = some (tyJ3 k) := by decide +kernel
abbrev cJ3_checkIndex_8e157 : ByteArray := prog_18_method_11_code
def yJ3_checkIndex_8e157 : MethodName := ⟨RJ3, "checkIndex", "(IILjava/util/function/BiFunction;)I"⟩
def RL : String := "LookAsideCacheLaw"
abbrev cL_law : ByteArray := code
def yL_law : MethodName := ⟨RL, "law", "([I)Z"⟩
abbrev vwCl : List vw_C := [(RX0, TX0, 4), (RX1, TX1, 10), (RX2, TX2, 4), (RX3, TX3, 5), (RX4, TX4, 3), (RX5, TX5, 1), (RX6, TX6, 11), (RX7, TX7, 30)]
