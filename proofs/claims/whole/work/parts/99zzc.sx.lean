/-! what there is at the start: static arrays, texts, the tables' words -/
theorem tl1_0 {w : Cond} (h : w ∈ tc1_0) : w ∈ lw_tbl := List.mem_append_right _ (show w ∈ tables_1 from List.mem_append_left _ (by rw [tq1]; exact List.mem_append_left _ h))
theorem tl1_10 {w : Cond} (h : w ∈ tc1_10) : w ∈ lw_tbl := List.mem_append_right _ (show w ∈ tables_1 from List.mem_append_left _ (by rw [tq1]; exact List.mem_append_right _ (List.mem_append_right _ (List.mem_append_right _ (List.mem_append_right _ (List.mem_append_right _ (List.mem_append_right _ (List.mem_append_right _ (List.mem_append_right _ (List.mem_append_right _ (List.mem_append_right _ (List.mem_append_left _ h))))))))))))
theorem tl1_11 {w : Cond} (h : w ∈ tc1_11) : w ∈ lw_tbl := List.mem_append_right _ (show w ∈ tables_1 from List.mem_append_left _ (by rw [tq1]; exact List.mem_append_right _ (List.mem_append_right _ (List.mem_append_right _ (List.mem_append_right _ (List.mem_append_right _ (List.mem_append_right _ (List.mem_append_right _ (List.mem_append_right _ (List.mem_append_right _ (List.mem_append_right _ (List.mem_append_right _ (List.mem_append_left _ h)))))))))))))
theorem tl1_2 {w : Cond} (h : w ∈ tc1_2) : w ∈ lw_tbl := List.mem_append_right _ (show w ∈ tables_1 from List.mem_append_left _ (by rw [tq1]; exact List.mem_append_right _ (List.mem_append_right _ (List.mem_append_left _ h))))
theorem tl1_3 {w : Cond} (h : w ∈ tc1_3) : w ∈ lw_tbl := List.mem_append_right _ (show w ∈ tables_1 from List.mem_append_left _ (by rw [tq1]; exact List.mem_append_right _ (List.mem_append_right _ (List.mem_append_right _ (List.mem_append_left _ h)))))
theorem tl2_10 {w : Cond} (h : w ∈ tc2_10) : w ∈ lw_tbl := List.mem_append_right _ (show w ∈ tables_1 from List.mem_append_right _ (List.mem_append_left _ (by rw [tq2]; exact List.mem_append_right _ (List.mem_append_right _ (List.mem_append_right _ (List.mem_append_right _ (List.mem_append_right _ (List.mem_append_right _ (List.mem_append_right _ (List.mem_append_right _ (List.mem_append_right _ (List.mem_append_right _ (List.mem_append_left _ h)))))))))))))
theorem tl2_11 {w : Cond} (h : w ∈ tc2_11) : w ∈ lw_tbl := List.mem_append_right _ (show w ∈ tables_1 from List.mem_append_right _ (List.mem_append_left _ (by rw [tq2]; exact List.mem_append_right _ (List.mem_append_right _ (List.mem_append_right _ (List.mem_append_right _ (List.mem_append_right _ (List.mem_append_right _ (List.mem_append_right _ (List.mem_append_right _ (List.mem_append_right _ (List.mem_append_right _ (List.mem_append_right _ (List.mem_append_left _ h))))))))))))))
theorem tl2_6 {w : Cond} (h : w ∈ tc2_6) : w ∈ lw_tbl := List.mem_append_right _ (show w ∈ tables_1 from List.mem_append_right _ (List.mem_append_left _ (by rw [tq2]; exact List.mem_append_right _ (List.mem_append_right _ (List.mem_append_right _ (List.mem_append_right _ (List.mem_append_right _ (List.mem_append_right _ (List.mem_append_left _ h)))))))))
theorem tl3_0 {w : Cond} (h : w ∈ tc3_0) : w ∈ lw_tbl := List.mem_append_right _ (show w ∈ tables_1 from List.mem_append_right _ (List.mem_append_right _ (List.mem_append_left _ (by rw [tq3]; exact List.mem_append_left _ h))))
theorem tl3_13 {w : Cond} (h : w ∈ tc3_13) : w ∈ lw_tbl := List.mem_append_right _ (show w ∈ tables_1 from List.mem_append_right _ (List.mem_append_right _ (List.mem_append_left _ (by rw [tq3]; exact List.mem_append_right _ (List.mem_append_right _ (List.mem_append_right _ (List.mem_append_right _ (List.mem_append_right _ (List.mem_append_right _ (List.mem_append_right _ (List.mem_append_right _ (List.mem_append_right _ (List.mem_append_right _ (List.mem_append_right _ (List.mem_append_right _ (List.mem_append_right _ (List.mem_append_left _ h)))))))))))))))))
theorem tl3_14 {w : Cond} (h : w ∈ tc3_14) : w ∈ lw_tbl := List.mem_append_right _ (show w ∈ tables_1 from List.mem_append_right _ (List.mem_append_right _ (List.mem_append_left _ (by rw [tq3]; exact List.mem_append_right _ (List.mem_append_right _ (List.mem_append_right _ (List.mem_append_right _ (List.mem_append_right _ (List.mem_append_right _ (List.mem_append_right _ (List.mem_append_right _ (List.mem_append_right _ (List.mem_append_right _ (List.mem_append_right _ (List.mem_append_right _ (List.mem_append_right _ (List.mem_append_right _ (h))))))))))))))))))
theorem tl4_0 {w : Cond} (h : w ∈ tc4_0) : w ∈ lw_tbl := List.mem_append_right _ (show w ∈ tables_1 from List.mem_append_right _ (List.mem_append_right _ (List.mem_append_right _ (List.mem_append_left _ (by rw [tq4]; exact List.mem_append_left _ h)))))
theorem tl4_1 {w : Cond} (h : w ∈ tc4_1) : w ∈ lw_tbl := List.mem_append_right _ (show w ∈ tables_1 from List.mem_append_right _ (List.mem_append_right _ (List.mem_append_right _ (List.mem_append_left _ (by rw [tq4]; exact List.mem_append_right _ (List.mem_append_left _ h))))))
section SX_
variable {s : State} {b : Nat}
theorem nA : ∀ a : Nat, a < s.heap.size → ¬ (fun q => s.heap.size ≤ q) a := fun a h q => Nat.not_le.mpr h q
theorem st_0 (hs : ∀ w ∈ flatC (Jvm.Cond.and given_1 narrow_1), w.before #[Value.ref b] s = true) (hts : ∀ w ∈ lw_tbl, w.before #[Value.ref b] s = true) : ∃ t : Nat, va_Z (xsN 0).1 (xsN 0).2 "[I" (.ref t) (fun q => s.heap.size ≤ q) s s.heap ∧ va_T .int t (xsC 0).length (fun i => .int (Int32.ofInt ((xsC 0).getD i 0))) (fun q => s.heap.size ≤ q) s s.heap := by
  obtain ⟨t, e, T⟩ := va_Tof (args := #[Value.ref b]) (s := s) (tm := (.static "LookAsideCache" "SETTING_FIRST" "[I")) (ty := .int) (N := 7) (f := fun i => .int (Int32.ofInt ((xsC 0).getD i 0))) (A := fun q => s.heap.size ≤ q) (by decide) (hs _ (by decide +kernel)) (va_eqt (hs _ (by decide +kernel))) (fun j hj => match j, hj with
    | 0, _ => va_eqt (hs (.eq (.elem (.static "LookAsideCache" "SETTING_FIRST" "[I") (.int 0)) (.int 4)) (by decide +kernel))
    | 1, _ => va_eqt (hs (.eq (.elem (.static "LookAsideCache" "SETTING_FIRST" "[I") (.int 1)) (.int 50)) (by decide +kernel))
    | 2, _ => va_eqt (hs (.eq (.elem (.static "LookAsideCache" "SETTING_FIRST" "[I") (.int 2)) (.int 5)) (by decide +kernel))
    | 3, _ => va_eqt (hs (.eq (.elem (.static "LookAsideCache" "SETTING_FIRST" "[I") (.int 3)) (.int 6)) (by decide +kernel))
    | 4, _ => va_eqt (hs (.eq (.elem (.static "LookAsideCache" "SETTING_FIRST" "[I") (.int 4)) (.int 2)) (by decide +kernel))
    | 5, _ => va_eqt (hs (.eq (.elem (.static "LookAsideCache" "SETTING_FIRST" "[I") (.int 5)) (.int 0)) (by decide +kernel))
    | 6, _ => va_eqt (hs (.eq (.elem (.static "LookAsideCache" "SETTING_FIRST" "[I") (.int 6)) (.int 1)) (by decide +kernel))
    ) nA
  exact ⟨t, va_Zof (hts _ (tl1_2 (List.mem_of_getElem? (i := 1) rfl))) (hts _ (tl1_0 (List.mem_of_getElem? (i := 1) rfl))) e nA, T⟩
theorem st_1 (hs : ∀ w ∈ flatC (Jvm.Cond.and given_1 narrow_1), w.before #[Value.ref b] s = true) (hts : ∀ w ∈ lw_tbl, w.before #[Value.ref b] s = true) : ∃ t : Nat, va_Z (xsN 1).1 (xsN 1).2 "[I" (.ref t) (fun q => s.heap.size ≤ q) s s.heap ∧ va_T .int t (xsC 1).length (fun i => .int (Int32.ofInt ((xsC 1).getD i 0))) (fun q => s.heap.size ≤ q) s s.heap := by
  obtain ⟨t, e, T⟩ := va_Tof (args := #[Value.ref b]) (s := s) (tm := (.static "LookAsideCache" "SETTING_LEAST" "[I")) (ty := .int) (N := 7) (f := fun i => .int (Int32.ofInt ((xsC 1).getD i 0))) (A := fun q => s.heap.size ≤ q) (by decide) (hs _ (by decide +kernel)) (va_eqt (hs _ (by decide +kernel))) (fun j hj => match j, hj with
    | 0, _ => va_eqt (hs (.eq (.elem (.static "LookAsideCache" "SETTING_LEAST" "[I") (.int 0)) (.int 1)) (by decide +kernel))
    | 1, _ => va_eqt (hs (.eq (.elem (.static "LookAsideCache" "SETTING_LEAST" "[I") (.int 1)) (.int 1)) (by decide +kernel))
    | 2, _ => va_eqt (hs (.eq (.elem (.static "LookAsideCache" "SETTING_LEAST" "[I") (.int 2)) (.int 0)) (by decide +kernel))
    | 3, _ => va_eqt (hs (.eq (.elem (.static "LookAsideCache" "SETTING_LEAST" "[I") (.int 3)) (.int 1)) (by decide +kernel))
    | 4, _ => va_eqt (hs (.eq (.elem (.static "LookAsideCache" "SETTING_LEAST" "[I") (.int 4)) (.int 0)) (by decide +kernel))
    | 5, _ => va_eqt (hs (.eq (.elem (.static "LookAsideCache" "SETTING_LEAST" "[I") (.int 5)) (.int 0)) (by decide +kernel))
    | 6, _ => va_eqt (hs (.eq (.elem (.static "LookAsideCache" "SETTING_LEAST" "[I") (.int 6)) (.int 0)) (by decide +kernel))
    ) nA
  exact ⟨t, va_Zof (hts _ (tl2_10 (List.mem_of_getElem? (i := 10) rfl))) (hts _ (tl1_0 (List.mem_of_getElem? (i := 1) rfl))) e nA, T⟩
theorem st_2 (hs : ∀ w ∈ flatC (Jvm.Cond.and given_1 narrow_1), w.before #[Value.ref b] s = true) (hts : ∀ w ∈ lw_tbl, w.before #[Value.ref b] s = true) : ∃ t : Nat, va_Z (xsN 2).1 (xsN 2).2 "[I" (.ref t) (fun q => s.heap.size ≤ q) s s.heap ∧ va_T .int t (xsC 2).length (fun i => .int (Int32.ofInt ((xsC 2).getD i 0))) (fun q => s.heap.size ≤ q) s s.heap := by
  obtain ⟨t, e, T⟩ := va_Tof (args := #[Value.ref b]) (s := s) (tm := (.static "LookAsideCache" "SETTING_MOST" "[I")) (ty := .int) (N := 7) (f := fun i => .int (Int32.ofInt ((xsC 2).getD i 0))) (A := fun q => s.heap.size ≤ q) (by decide) (hs _ (by decide +kernel)) (va_eqt (hs _ (by decide +kernel))) (fun j hj => match j, hj with
    | 0, _ => va_eqt (hs (.eq (.elem (.static "LookAsideCache" "SETTING_MOST" "[I") (.int 0)) (.int 8)) (by decide +kernel))
    | 1, _ => va_eqt (hs (.eq (.elem (.static "LookAsideCache" "SETTING_MOST" "[I") (.int 1)) (.int 99)) (by decide +kernel))
    | 2, _ => va_eqt (hs (.eq (.elem (.static "LookAsideCache" "SETTING_MOST" "[I") (.int 2)) (.int 20)) (by decide +kernel))
    | 3, _ => va_eqt (hs (.eq (.elem (.static "LookAsideCache" "SETTING_MOST" "[I") (.int 3)) (.int 20)) (by decide +kernel))
    | 4, _ => va_eqt (hs (.eq (.elem (.static "LookAsideCache" "SETTING_MOST" "[I") (.int 4)) (.int 20)) (by decide +kernel))
    | 5, _ => va_eqt (hs (.eq (.elem (.static "LookAsideCache" "SETTING_MOST" "[I") (.int 5)) (.int 3)) (by decide +kernel))
    | 6, _ => va_eqt (hs (.eq (.elem (.static "LookAsideCache" "SETTING_MOST" "[I") (.int 6)) (.int 1)) (by decide +kernel))
    ) nA
  exact ⟨t, va_Zof (hts _ (tl2_10 (List.mem_of_getElem? (i := 12) rfl))) (hts _ (tl1_0 (List.mem_of_getElem? (i := 1) rfl))) e nA, T⟩
theorem st_3 (hs : ∀ w ∈ flatC (Jvm.Cond.and given_1 narrow_1), w.before #[Value.ref b] s = true) (hts : ∀ w ∈ lw_tbl, w.before #[Value.ref b] s = true) : ∃ t : Nat, va_Z (xsN 3).1 (xsN 3).2 "[I" (.ref t) (fun q => s.heap.size ≤ q) s s.heap ∧ va_T .int t (xsC 3).length (fun i => .int (Int32.ofInt ((xsC 3).getD i 0))) (fun q => s.heap.size ≤ q) s s.heap := by
  obtain ⟨t, e, T⟩ := va_Tof (args := #[Value.ref b]) (s := s) (tm := (.static "LookAsideCache$World" "POLICY_PART" "[I")) (ty := .int) (N := 4) (f := fun i => .int (Int32.ofInt ((xsC 3).getD i 0))) (A := fun q => s.heap.size ≤ q) (by decide) (hs _ (by decide +kernel)) (va_eqt (hs _ (by decide +kernel))) (fun j hj => match j, hj with
    | 0, _ => va_eqt (hs (.eq (.elem (.static "LookAsideCache$World" "POLICY_PART" "[I") (.int 0)) (.int 3)) (by decide +kernel))
    | 1, _ => va_eqt (hs (.eq (.elem (.static "LookAsideCache$World" "POLICY_PART" "[I") (.int 1)) (.int 4)) (by decide +kernel))
    | 2, _ => va_eqt (hs (.eq (.elem (.static "LookAsideCache$World" "POLICY_PART" "[I") (.int 2)) (.int 2)) (by decide +kernel))
    | 3, _ => va_eqt (hs (.eq (.elem (.static "LookAsideCache$World" "POLICY_PART" "[I") (.int 3)) (.int 1)) (by decide +kernel))
    ) nA
  exact ⟨t, va_Zof (hts _ (tl2_6 (List.mem_of_getElem? (i := 12) rfl))) (hts _ (tl1_0 (List.mem_of_getElem? (i := 2) rfl))) e nA, T⟩
theorem st_4 (hs : ∀ w ∈ flatC (Jvm.Cond.and given_1 narrow_1), w.before #[Value.ref b] s = true) (hts : ∀ w ∈ lw_tbl, w.before #[Value.ref b] s = true) : ∃ t : Nat, va_Z (xsN 4).1 (xsN 4).2 "[I" (.ref t) (fun q => s.heap.size ≤ q) s s.heap ∧ va_T .int t (xsC 4).length (fun i => .int (Int32.ofInt ((xsC 4).getD i 0))) (fun q => s.heap.size ≤ q) s s.heap := by
  obtain ⟨t, e, T⟩ := va_Tof (args := #[Value.ref b]) (s := s) (tm := (.static "LookAsideCache$World" "DUE_END" "[I")) (ty := .int) (N := 4) (f := fun i => .int (Int32.ofInt ((xsC 4).getD i 0))) (A := fun q => s.heap.size ≤ q) (by decide) (hs _ (by decide +kernel)) (va_eqt (hs _ (by decide +kernel))) (fun j hj => match j, hj with
    | 0, _ => va_eqt (hs (.eq (.elem (.static "LookAsideCache$World" "DUE_END" "[I") (.int 0)) (.int 5)) (by decide +kernel))
    | 1, _ => va_eqt (hs (.eq (.elem (.static "LookAsideCache$World" "DUE_END" "[I") (.int 1)) (.int 7)) (by decide +kernel))
    | 2, _ => va_eqt (hs (.eq (.elem (.static "LookAsideCache$World" "DUE_END" "[I") (.int 2)) (.int 10)) (by decide +kernel))
    | 3, _ => va_eqt (hs (.eq (.elem (.static "LookAsideCache$World" "DUE_END" "[I") (.int 3)) (.int 11)) (by decide +kernel))
    ) nA
  exact ⟨t, va_Zof (hts _ (tl2_11 (List.mem_of_getElem? (i := 14) rfl))) (hts _ (tl1_0 (List.mem_of_getElem? (i := 2) rfl))) e nA, T⟩
theorem st_5 (hs : ∀ w ∈ flatC (Jvm.Cond.and given_1 narrow_1), w.before #[Value.ref b] s = true) (hts : ∀ w ∈ lw_tbl, w.before #[Value.ref b] s = true) : ∃ t : Nat, va_Z (xsN 5).1 (xsN 5).2 "[I" (.ref t) (fun q => s.heap.size ≤ q) s s.heap ∧ va_T .int t (xsC 5).length (fun i => .int (Int32.ofInt ((xsC 5).getD i 0))) (fun q => s.heap.size ≤ q) s s.heap := by
  obtain ⟨t, e, T⟩ := va_Tof (args := #[Value.ref b]) (s := s) (tm := (.static "LookAsideCache$World" "BESIDE_END" "[I")) (ty := .int) (N := 6) (f := fun i => .int (Int32.ofInt ((xsC 5).getD i 0))) (A := fun q => s.heap.size ≤ q) (by decide) (hs _ (by decide +kernel)) (va_eqt (hs _ (by decide +kernel))) (fun j hj => match j, hj with
    | 0, _ => va_eqt (hs (.eq (.elem (.static "LookAsideCache$World" "BESIDE_END" "[I") (.int 0)) (.int 7)) (by decide +kernel))
    | 1, _ => va_eqt (hs (.eq (.elem (.static "LookAsideCache$World" "BESIDE_END" "[I") (.int 1)) (.int 7)) (by decide +kernel))
    | 2, _ => va_eqt (hs (.eq (.elem (.static "LookAsideCache$World" "BESIDE_END" "[I") (.int 2)) (.int 10)) (by decide +kernel))
    | 3, _ => va_eqt (hs (.eq (.elem (.static "LookAsideCache$World" "BESIDE_END" "[I") (.int 3)) (.int 10)) (by decide +kernel))
    | 4, _ => va_eqt (hs (.eq (.elem (.static "LookAsideCache$World" "BESIDE_END" "[I") (.int 4)) (.int 10)) (by decide +kernel))
    | 5, _ => va_eqt (hs (.eq (.elem (.static "LookAsideCache$World" "BESIDE_END" "[I") (.int 5)) (.int 11)) (by decide +kernel))
    ) nA
  exact ⟨t, va_Zof (hts _ (tl3_0 (List.mem_of_getElem? (i := 2) rfl))) (hts _ (tl1_0 (List.mem_of_getElem? (i := 2) rfl))) e nA, T⟩
theorem ne_K (hs : ∀ w ∈ flatC (Jvm.Cond.and given_1 narrow_1), w.before #[Value.ref b] s = true) : ∀ i j : Nat, i < j → j < 8 → (Cond.not (Cond.eq (.string RX4 (xkI i).1) (.string RX4 (xkI j).1))).before #[Value.ref b] s = true := fun i j hij hj => match j, hj with
  | 0, _ => absurd hij (by omega)
  | 1, _ => match i, hij with
    | 0, _ => hs (.not (.eq (.string "LookAsideCache$Tape" 63) (.string "LookAsideCache$Tape" 65))) (by decide +kernel)
  | 2, _ => match i, hij with
    | 0, _ => hs (.not (.eq (.string "LookAsideCache$Tape" 63) (.string "LookAsideCache$Tape" 67))) (by decide +kernel)
    | 1, _ => hs (.not (.eq (.string "LookAsideCache$Tape" 65) (.string "LookAsideCache$Tape" 67))) (by decide +kernel)
  | 3, _ => match i, hij with
    | 0, _ => hs (.not (.eq (.string "LookAsideCache$Tape" 63) (.string "LookAsideCache$Tape" 69))) (by decide +kernel)
    | 1, _ => hs (.not (.eq (.string "LookAsideCache$Tape" 65) (.string "LookAsideCache$Tape" 69))) (by decide +kernel)
    | 2, _ => hs (.not (.eq (.string "LookAsideCache$Tape" 67) (.string "LookAsideCache$Tape" 69))) (by decide +kernel)
  | 4, _ => match i, hij with
    | 0, _ => hs (.not (.eq (.string "LookAsideCache$Tape" 63) (.string "LookAsideCache$Tape" 71))) (by decide +kernel)
    | 1, _ => hs (.not (.eq (.string "LookAsideCache$Tape" 65) (.string "LookAsideCache$Tape" 71))) (by decide +kernel)
    | 2, _ => hs (.not (.eq (.string "LookAsideCache$Tape" 67) (.string "LookAsideCache$Tape" 71))) (by decide +kernel)
    | 3, _ => hs (.not (.eq (.string "LookAsideCache$Tape" 69) (.string "LookAsideCache$Tape" 71))) (by decide +kernel)
  | 5, _ => match i, hij with
    | 0, _ => hs (.not (.eq (.string "LookAsideCache$Tape" 63) (.string "LookAsideCache$Tape" 73))) (by decide +kernel)
    | 1, _ => hs (.not (.eq (.string "LookAsideCache$Tape" 65) (.string "LookAsideCache$Tape" 73))) (by decide +kernel)
    | 2, _ => hs (.not (.eq (.string "LookAsideCache$Tape" 67) (.string "LookAsideCache$Tape" 73))) (by decide +kernel)
    | 3, _ => hs (.not (.eq (.string "LookAsideCache$Tape" 69) (.string "LookAsideCache$Tape" 73))) (by decide +kernel)
    | 4, _ => hs (.not (.eq (.string "LookAsideCache$Tape" 71) (.string "LookAsideCache$Tape" 73))) (by decide +kernel)
  | 6, _ => match i, hij with
    | 0, _ => hs (.not (.eq (.string "LookAsideCache$Tape" 63) (.string "LookAsideCache$Tape" 75))) (by decide +kernel)
    | 1, _ => hs (.not (.eq (.string "LookAsideCache$Tape" 65) (.string "LookAsideCache$Tape" 75))) (by decide +kernel)
    | 2, _ => hs (.not (.eq (.string "LookAsideCache$Tape" 67) (.string "LookAsideCache$Tape" 75))) (by decide +kernel)
    | 3, _ => hs (.not (.eq (.string "LookAsideCache$Tape" 69) (.string "LookAsideCache$Tape" 75))) (by decide +kernel)
    | 4, _ => hs (.not (.eq (.string "LookAsideCache$Tape" 71) (.string "LookAsideCache$Tape" 75))) (by decide +kernel)
    | 5, _ => hs (.not (.eq (.string "LookAsideCache$Tape" 73) (.string "LookAsideCache$Tape" 75))) (by decide +kernel)
  | 7, _ => match i, hij with
    | 0, _ => hs (.not (.eq (.string "LookAsideCache$Tape" 63) (.string "LookAsideCache$Tape" 77))) (by decide +kernel)
    | 1, _ => hs (.not (.eq (.string "LookAsideCache$Tape" 65) (.string "LookAsideCache$Tape" 77))) (by decide +kernel)
    | 2, _ => hs (.not (.eq (.string "LookAsideCache$Tape" 67) (.string "LookAsideCache$Tape" 77))) (by decide +kernel)
    | 3, _ => hs (.not (.eq (.string "LookAsideCache$Tape" 69) (.string "LookAsideCache$Tape" 77))) (by decide +kernel)
    | 4, _ => hs (.not (.eq (.string "LookAsideCache$Tape" 71) (.string "LookAsideCache$Tape" 77))) (by decide +kernel)
    | 5, _ => hs (.not (.eq (.string "LookAsideCache$Tape" 73) (.string "LookAsideCache$Tape" 77))) (by decide +kernel)
    | 6, _ => hs (.not (.eq (.string "LookAsideCache$Tape" 75) (.string "LookAsideCache$Tape" 77))) (by decide +kernel)
theorem st_K (hs : ∀ w ∈ flatC (Jvm.Cond.and given_1 narrow_1), w.before #[Value.ref b] s = true) : ∃ adK adV : Nat → Nat, vk_S 8 xkL xkB adK adV (fun q => s.heap.size ≤ q) s s.heap ∧ ∀ i : Nat, i < 8 → (Term.string RX4 (xkI i).1).eval #[Value.ref b] s none [] s = some (.ref (adK i)) := by
  refine vk_Sof (args := #[Value.ref b]) (s := s) (N := 8) (tm := fun i => .string RX4 (xkI i).1) (len := xkL) (byt := xkB) (A := fun q => s.heap.size ≤ q)
    (fun i hi => match i, hi with
    | 0, _ => by decide
    | 1, _ => by decide
    | 2, _ => by decide
    | 3, _ => by decide
    | 4, _ => by decide
    | 5, _ => by decide
    | 6, _ => by decide
    | 7, _ => by decide
    )
    (fun i hi => match i, hi with
    | 0, _ => hs (.exactly (.string "LookAsideCache$Tape" 63) "java/lang/String") (by decide +kernel)
    | 1, _ => hs (.exactly (.string "LookAsideCache$Tape" 65) "java/lang/String") (by decide +kernel)
    | 2, _ => hs (.exactly (.string "LookAsideCache$Tape" 67) "java/lang/String") (by decide +kernel)
    | 3, _ => hs (.exactly (.string "LookAsideCache$Tape" 69) "java/lang/String") (by decide +kernel)
    | 4, _ => hs (.exactly (.string "LookAsideCache$Tape" 71) "java/lang/String") (by decide +kernel)
    | 5, _ => hs (.exactly (.string "LookAsideCache$Tape" 73) "java/lang/String") (by decide +kernel)
    | 6, _ => hs (.exactly (.string "LookAsideCache$Tape" 75) "java/lang/String") (by decide +kernel)
    | 7, _ => hs (.exactly (.string "LookAsideCache$Tape" 77) "java/lang/String") (by decide +kernel)
    )
    (fun i hi => match i, hi with
    | 0, _ => hs (.eq (.field (.string "LookAsideCache$Tape" 63) "java/lang/String" "coder" "B") (.int 0)) (by decide +kernel)
    | 1, _ => hs (.eq (.field (.string "LookAsideCache$Tape" 65) "java/lang/String" "coder" "B") (.int 0)) (by decide +kernel)
    | 2, _ => hs (.eq (.field (.string "LookAsideCache$Tape" 67) "java/lang/String" "coder" "B") (.int 0)) (by decide +kernel)
    | 3, _ => hs (.eq (.field (.string "LookAsideCache$Tape" 69) "java/lang/String" "coder" "B") (.int 0)) (by decide +kernel)
    | 4, _ => hs (.eq (.field (.string "LookAsideCache$Tape" 71) "java/lang/String" "coder" "B") (.int 0)) (by decide +kernel)
    | 5, _ => hs (.eq (.field (.string "LookAsideCache$Tape" 73) "java/lang/String" "coder" "B") (.int 0)) (by decide +kernel)
    | 6, _ => hs (.eq (.field (.string "LookAsideCache$Tape" 75) "java/lang/String" "coder" "B") (.int 0)) (by decide +kernel)
    | 7, _ => hs (.eq (.field (.string "LookAsideCache$Tape" 77) "java/lang/String" "coder" "B") (.int 0)) (by decide +kernel)
    )
    (fun i hi => match i, hi with
    | 0, _ => hs (.arrayOf (.field (.string "LookAsideCache$Tape" 63) "java/lang/String" "value" "[B") .byte) (by decide +kernel)
    | 1, _ => hs (.arrayOf (.field (.string "LookAsideCache$Tape" 65) "java/lang/String" "value" "[B") .byte) (by decide +kernel)
    | 2, _ => hs (.arrayOf (.field (.string "LookAsideCache$Tape" 67) "java/lang/String" "value" "[B") .byte) (by decide +kernel)
    | 3, _ => hs (.arrayOf (.field (.string "LookAsideCache$Tape" 69) "java/lang/String" "value" "[B") .byte) (by decide +kernel)
    | 4, _ => hs (.arrayOf (.field (.string "LookAsideCache$Tape" 71) "java/lang/String" "value" "[B") .byte) (by decide +kernel)
    | 5, _ => hs (.arrayOf (.field (.string "LookAsideCache$Tape" 73) "java/lang/String" "value" "[B") .byte) (by decide +kernel)
    | 6, _ => hs (.arrayOf (.field (.string "LookAsideCache$Tape" 75) "java/lang/String" "value" "[B") .byte) (by decide +kernel)
    | 7, _ => hs (.arrayOf (.field (.string "LookAsideCache$Tape" 77) "java/lang/String" "value" "[B") .byte) (by decide +kernel)
    )
    (fun i hi => match i, hi with
    | 0, _ => hs (.eq (.length (.field (.string "LookAsideCache$Tape" 63) "java/lang/String" "value" "[B")) (.int 3)) (by decide +kernel)
    | 1, _ => hs (.eq (.length (.field (.string "LookAsideCache$Tape" 65) "java/lang/String" "value" "[B")) (.int 4)) (by decide +kernel)
    | 2, _ => hs (.eq (.length (.field (.string "LookAsideCache$Tape" 67) "java/lang/String" "value" "[B")) (.int 4)) (by decide +kernel)
    | 3, _ => hs (.eq (.length (.field (.string "LookAsideCache$Tape" 69) "java/lang/String" "value" "[B")) (.int 5)) (by decide +kernel)
    | 4, _ => hs (.eq (.length (.field (.string "LookAsideCache$Tape" 71) "java/lang/String" "value" "[B")) (.int 5)) (by decide +kernel)
    | 5, _ => hs (.eq (.length (.field (.string "LookAsideCache$Tape" 73) "java/lang/String" "value" "[B")) (.int 4)) (by decide +kernel)
    | 6, _ => hs (.eq (.length (.field (.string "LookAsideCache$Tape" 75) "java/lang/String" "value" "[B")) (.int 4)) (by decide +kernel)
    | 7, _ => hs (.eq (.length (.field (.string "LookAsideCache$Tape" 77) "java/lang/String" "value" "[B")) (.int 4)) (by decide +kernel)
    )
    (fun i hi => match i, hi with
    | 0, _ => fun j hj => match j, hj with
      | 0, _ => hs (.eq (.elem (.field (.string "LookAsideCache$Tape" 63) "java/lang/String" "value" "[B") (.int 0)) (.int 103)) (by decide +kernel)
      | 1, _ => hs (.eq (.elem (.field (.string "LookAsideCache$Tape" 63) "java/lang/String" "value" "[B") (.int 1)) (.int 101)) (by decide +kernel)
      | 2, _ => hs (.eq (.elem (.field (.string "LookAsideCache$Tape" 63) "java/lang/String" "value" "[B") (.int 2)) (.int 116)) (by decide +kernel)
    | 1, _ => fun j hj => match j, hj with
      | 0, _ => hs (.eq (.elem (.field (.string "LookAsideCache$Tape" 65) "java/lang/String" "value" "[B") (.int 0)) (.int 108)) (by decide +kernel)
      | 1, _ => hs (.eq (.elem (.field (.string "LookAsideCache$Tape" 65) "java/lang/String" "value" "[B") (.int 1)) (.int 111)) (by decide +kernel)
      | 2, _ => hs (.eq (.elem (.field (.string "LookAsideCache$Tape" 65) "java/lang/String" "value" "[B") (.int 2)) (.int 111)) (by decide +kernel)
      | 3, _ => hs (.eq (.elem (.field (.string "LookAsideCache$Tape" 65) "java/lang/String" "value" "[B") (.int 3)) (.int 107)) (by decide +kernel)
    | 2, _ => fun j hj => match j, hj with
      | 0, _ => hs (.eq (.elem (.field (.string "LookAsideCache$Tape" 67) "java/lang/String" "value" "[B") (.int 0)) (.int 102)) (by decide +kernel)
      | 1, _ => hs (.eq (.elem (.field (.string "LookAsideCache$Tape" 67) "java/lang/String" "value" "[B") (.int 1)) (.int 105)) (by decide +kernel)
      | 2, _ => hs (.eq (.elem (.field (.string "LookAsideCache$Tape" 67) "java/lang/String" "value" "[B") (.int 2)) (.int 108)) (by decide +kernel)
      | 3, _ => hs (.eq (.elem (.field (.string "LookAsideCache$Tape" 67) "java/lang/String" "value" "[B") (.int 3)) (.int 108)) (by decide +kernel)
    | 3, _ => fun j hj => match j, hj with
      | 0, _ => hs (.eq (.elem (.field (.string "LookAsideCache$Tape" 69) "java/lang/String" "value" "[B") (.int 0)) (.int 119)) (by decide +kernel)
      | 1, _ => hs (.eq (.elem (.field (.string "LookAsideCache$Tape" 69) "java/lang/String" "value" "[B") (.int 1)) (.int 114)) (by decide +kernel)
      | 2, _ => hs (.eq (.elem (.field (.string "LookAsideCache$Tape" 69) "java/lang/String" "value" "[B") (.int 2)) (.int 105)) (by decide +kernel)
      | 3, _ => hs (.eq (.elem (.field (.string "LookAsideCache$Tape" 69) "java/lang/String" "value" "[B") (.int 3)) (.int 116)) (by decide +kernel)
      | 4, _ => hs (.eq (.elem (.field (.string "LookAsideCache$Tape" 69) "java/lang/String" "value" "[B") (.int 4)) (.int 101)) (by decide +kernel)
    | 4, _ => fun j hj => match j, hj with
      | 0, _ => hs (.eq (.elem (.field (.string "LookAsideCache$Tape" 71) "java/lang/String" "value" "[B") (.int 0)) (.int 97)) (by decide +kernel)
      | 1, _ => hs (.eq (.elem (.field (.string "LookAsideCache$Tape" 71) "java/lang/String" "value" "[B") (.int 1)) (.int 112)) (by decide +kernel)
      | 2, _ => hs (.eq (.elem (.field (.string "LookAsideCache$Tape" 71) "java/lang/String" "value" "[B") (.int 2)) (.int 112)) (by decide +kernel)
      | 3, _ => hs (.eq (.elem (.field (.string "LookAsideCache$Tape" 71) "java/lang/String" "value" "[B") (.int 3)) (.int 108)) (by decide +kernel)
      | 4, _ => hs (.eq (.elem (.field (.string "LookAsideCache$Tape" 71) "java/lang/String" "value" "[B") (.int 4)) (.int 121)) (by decide +kernel)
    | 5, _ => fun j hj => match j, hj with
      | 0, _ => hs (.eq (.elem (.field (.string "LookAsideCache$Tape" 73) "java/lang/String" "value" "[B") (.int 0)) (.int 116)) (by decide +kernel)
      | 1, _ => hs (.eq (.elem (.field (.string "LookAsideCache$Tape" 73) "java/lang/String" "value" "[B") (.int 1)) (.int 105)) (by decide +kernel)
      | 2, _ => hs (.eq (.elem (.field (.string "LookAsideCache$Tape" 73) "java/lang/String" "value" "[B") (.int 2)) (.int 99)) (by decide +kernel)
      | 3, _ => hs (.eq (.elem (.field (.string "LookAsideCache$Tape" 73) "java/lang/String" "value" "[B") (.int 3)) (.int 107)) (by decide +kernel)
    | 6, _ => fun j hj => match j, hj with
      | 0, _ => hs (.eq (.elem (.field (.string "LookAsideCache$Tape" 75) "java/lang/String" "value" "[B") (.int 0)) (.int 99)) (by decide +kernel)
      | 1, _ => hs (.eq (.elem (.field (.string "LookAsideCache$Tape" 75) "java/lang/String" "value" "[B") (.int 1)) (.int 111)) (by decide +kernel)
      | 2, _ => hs (.eq (.elem (.field (.string "LookAsideCache$Tape" 75) "java/lang/String" "value" "[B") (.int 2)) (.int 108)) (by decide +kernel)
      | 3, _ => hs (.eq (.elem (.field (.string "LookAsideCache$Tape" 75) "java/lang/String" "value" "[B") (.int 3)) (.int 100)) (by decide +kernel)
    | 7, _ => fun j hj => match j, hj with
      | 0, _ => hs (.eq (.elem (.field (.string "LookAsideCache$Tape" 77) "java/lang/String" "value" "[B") (.int 0)) (.int 119)) (by decide +kernel)
      | 1, _ => hs (.eq (.elem (.field (.string "LookAsideCache$Tape" 77) "java/lang/String" "value" "[B") (.int 1)) (.int 97)) (by decide +kernel)
      | 2, _ => hs (.eq (.elem (.field (.string "LookAsideCache$Tape" 77) "java/lang/String" "value" "[B") (.int 2)) (.int 114)) (by decide +kernel)
      | 3, _ => hs (.eq (.elem (.field (.string "LookAsideCache$Tape" 77) "java/lang/String" "value" "[B") (.int 3)) (.int 109)) (by decide +kernel)
    )
    (fun i j hi hj hij => ?_) nA
  rcases Nat.lt_or_ge i j with c | c
  · exact Or.inl (ne_K hs i j c hj)
  · exact Or.inr (ne_K hs j i (by omega) hi)
theorem st_R (hts : ∀ w ∈ lw_tbl, w.before #[Value.ref b] s = true) : ∀ k : Nat, k < 8 → (Cond.stringRef RX4 (xkI k).1 (xkI k).2).before #[Value.ref b] s = true := fun k hk => match k, hk with
  | 0, _ => hts _ (tl3_13 (List.mem_of_getElem? (i := 15) rfl))
  | 1, _ => hts _ (tl3_14 (List.mem_of_getElem? (i := 0) rfl))
  | 2, _ => hts _ (tl3_14 (List.mem_of_getElem? (i := 1) rfl))
  | 3, _ => hts _ (tl3_14 (List.mem_of_getElem? (i := 2) rfl))
  | 4, _ => hts _ (tl3_14 (List.mem_of_getElem? (i := 3) rfl))
  | 5, _ => hts _ (tl3_14 (List.mem_of_getElem? (i := 4) rfl))
  | 6, _ => hts _ (tl3_14 (List.mem_of_getElem? (i := 5) rfl))
  | 7, _ => hts _ (tl3_14 (List.mem_of_getElem? (i := 6) rfl))
theorem st_C (hs : ∀ w ∈ flatC (Jvm.Cond.and given_1 narrow_1), w.before #[Value.ref b] s = true) (hts : ∀ w ∈ lw_tbl, w.before #[Value.ref b] s = true) : va_Z "java/lang/String" "COMPACT_STRINGS" "Z" (.int 1) (fun q => s.heap.size ≤ q) s s.heap := va_Zof (args := #[Value.ref b]) (hts _ (tl4_0 (List.mem_of_getElem? (i := 4) rfl))) (hts _ (tl1_0 (List.mem_of_getElem? (i := 13) rfl))) (va_eqt (hs (.eq (.static "java/lang/String" "COMPACT_STRINGS" "Z") (.int 1)) (by decide +kernel))) nA
theorem st_F (hs : ∀ w ∈ flatC (Jvm.Cond.and given_1 narrow_1), w.before #[Value.ref b] s = true) (hts : ∀ w ∈ lw_tbl, w.before #[Value.ref b] s = true) : va_Zq "jdk/internal/util/Preconditions" "SIOOBE_FORMATTER" "Ljava/util/function/BiFunction;" (fun q => s.heap.size ≤ q) s s.heap := va_Zqof (args := #[Value.ref b]) (hts _ (tl4_1 (List.mem_of_getElem? (i := 4) rfl))) (hts _ (tl1_0 (List.mem_of_getElem? (i := 15) rfl))) (hs _ (by decide +kernel)) nA
theorem st_N (hts : ∀ w ∈ lw_tbl, w.before #[Value.ref b] s = true) : NW s := by
  refine ⟨fun w hw => ?_, hts _ (tl1_10 (List.mem_of_getElem? (i := 0) rfl)), hts _ (tl1_3 (List.mem_of_getElem? (i := 6) rfl)), hts _ (tl1_11 (List.mem_of_getElem? (i := 7) rfl))⟩
  have h1 := (List.mem_filter.mp hw).2
  refine va_Nw.of ?_ (hts w (List.mem_filter.mp hw).1)
  unfold isNest at h1
  split at h1 <;> first | rfl | cases h1
end SX_
