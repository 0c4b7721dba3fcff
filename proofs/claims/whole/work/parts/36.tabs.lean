/-! what the printed tables say of methods, fields and constants (by program) -/
theorem gd_l {ws : List Cond} (ps : List Nat) (hp : ws = ps.filterMap (fun i => lw_tbl[i]?)) (hg : ws.all goodWord = true) : ∀ w ∈ ws, w ∈ gdT := fun w hw => by
  have h1 := List.all_eq_true.mp hg w hw
  rw [hp] at hw
  obtain ⟨i, -, hi⟩ := List.mem_filterMap.mp hw
  exact gd_i i hi h1
theorem gnX0 : ∀ w ∈ u_ws RX0 TX0 4, w ∈ gdT := fun w hw => by
  obtain ⟨k, hk, rfl⟩ := List.mem_map.mp hw
  have hk := List.mem_range.mp hk
  match k, hk with
  | 0, _ => exact tm1_3 (List.mem_of_getElem? (i := 13) rfl) rfl
  | 1, _ => exact tm1_3 (List.mem_of_getElem? (i := 15) rfl) rfl
  | 2, _ => exact tm1_4 (List.mem_of_getElem? (i := 1) rfl) rfl
  | 3, _ => exact tm1_4 (List.mem_of_getElem? (i := 3) rfl) rfl
  | n + 4, h => exact absurd h (by omega)
theorem gnX1 : ∀ w ∈ u_ws RX1 TX1 10, w ∈ gdT := fun w hw => by
  obtain ⟨k, hk, rfl⟩ := List.mem_map.mp hw
  have hk := List.mem_range.mp hk
  match k, hk with
  | 0, _ => exact tm1_7 (List.mem_of_getElem? (i := 8) rfl) rfl
  | 1, _ => exact tm1_7 (List.mem_of_getElem? (i := 10) rfl) rfl
  | 2, _ => exact tm1_7 (List.mem_of_getElem? (i := 12) rfl) rfl
  | 3, _ => exact tm1_7 (List.mem_of_getElem? (i := 14) rfl) rfl
  | 4, _ => exact tm1_8 (List.mem_of_getElem? (i := 0) rfl) rfl
  | 5, _ => exact tm1_8 (List.mem_of_getElem? (i := 2) rfl) rfl
  | 6, _ => exact tm1_8 (List.mem_of_getElem? (i := 4) rfl) rfl
  | 7, _ => exact tm1_8 (List.mem_of_getElem? (i := 6) rfl) rfl
  | 8, _ => exact tm1_8 (List.mem_of_getElem? (i := 8) rfl) rfl
  | 9, _ => exact tm1_8 (List.mem_of_getElem? (i := 10) rfl) rfl
  | n + 10, h => exact absurd h (by omega)
theorem gnX2 : ∀ w ∈ u_ws RX2 TX2 4, w ∈ gdT := fun w hw => by
  obtain ⟨k, hk, rfl⟩ := List.mem_map.mp hw
  have hk := List.mem_range.mp hk
  match k, hk with
  | 0, _ => exact tm1_10 (List.mem_of_getElem? (i := 13) rfl) rfl
  | 1, _ => exact tm1_10 (List.mem_of_getElem? (i := 15) rfl) rfl
  | 2, _ => exact tm1_11 (List.mem_of_getElem? (i := 1) rfl) rfl
  | 3, _ => exact tm1_11 (List.mem_of_getElem? (i := 3) rfl) rfl
  | n + 4, h => exact absurd h (by omega)
theorem gnX3 : ∀ w ∈ u_ws RX3 TX3 5, w ∈ gdT := fun w hw => by
  obtain ⟨k, hk, rfl⟩ := List.mem_map.mp hw
  have hk := List.mem_range.mp hk
  match k, hk with
  | 0, _ => exact tm1_5 (List.mem_of_getElem? (i := 13) rfl) rfl
  | 1, _ => exact tm1_5 (List.mem_of_getElem? (i := 15) rfl) rfl
  | 2, _ => exact tm1_6 (List.mem_of_getElem? (i := 1) rfl) rfl
  | 3, _ => exact tm1_6 (List.mem_of_getElem? (i := 3) rfl) rfl
  | 4, _ => exact tm1_6 (List.mem_of_getElem? (i := 5) rfl) rfl
  | n + 5, h => exact absurd h (by omega)
theorem gnX4 : ∀ w ∈ u_ws RX4 TX4 3, w ∈ gdT := fun w hw => by
  obtain ⟨k, hk, rfl⟩ := List.mem_map.mp hw
  have hk := List.mem_range.mp hk
  match k, hk with
  | 0, _ => exact tm1_9 (List.mem_of_getElem? (i := 8) rfl) rfl
  | 1, _ => exact tm1_9 (List.mem_of_getElem? (i := 10) rfl) rfl
  | 2, _ => exact tm1_9 (List.mem_of_getElem? (i := 12) rfl) rfl
  | n + 3, h => exact absurd h (by omega)
theorem gnX5 : ∀ w ∈ u_ws RX5 TX5 1, w ∈ gdT := fun w hw => by
  obtain ⟨k, hk, rfl⟩ := List.mem_map.mp hw
  have hk := List.mem_range.mp hk
  match k, hk with
  | 0, _ => exact tm1_2 (List.mem_of_getElem? (i := 11) rfl) rfl
  | n + 1, h => exact absurd h (by omega)
theorem gnX6 : ∀ w ∈ u_ws RX6 TX6 11, w ∈ gdT := fun w hw => by
  obtain ⟨k, hk, rfl⟩ := List.mem_map.mp hw
  have hk := List.mem_range.mp hk
  match k, hk with
  | 0, _ => exact tm1_12 (List.mem_of_getElem? (i := 6) rfl) rfl
  | 1, _ => exact tm1_12 (List.mem_of_getElem? (i := 8) rfl) rfl
  | 2, _ => exact tm1_12 (List.mem_of_getElem? (i := 10) rfl) rfl
  | 3, _ => exact tm1_12 (List.mem_of_getElem? (i := 12) rfl) rfl
  | 4, _ => exact tm1_12 (List.mem_of_getElem? (i := 14) rfl) rfl
  | 5, _ => exact tm1_13 (List.mem_of_getElem? (i := 0) rfl) rfl
  | 6, _ => exact tm1_13 (List.mem_of_getElem? (i := 2) rfl) rfl
  | 7, _ => exact tm1_13 (List.mem_of_getElem? (i := 4) rfl) rfl
  | 8, _ => exact tm1_13 (List.mem_of_getElem? (i := 6) rfl) rfl
  | 9, _ => exact tm1_13 (List.mem_of_getElem? (i := 8) rfl) rfl
  | 10, _ => exact tm1_13 (List.mem_of_getElem? (i := 10) rfl) rfl
  | n + 11, h => exact absurd h (by omega)
theorem gnX7 : ∀ w ∈ u_ws RX7 TX7 30, w ∈ gdT := fun w hw => by
  obtain ⟨k, hk, rfl⟩ := List.mem_map.mp hw
  have hk := List.mem_range.mp hk
  match k, hk with
  | 0, _ => exact tm5_0 (List.mem_of_getElem? (i := 11) rfl) rfl
  | 1, _ => exact tm5_0 (List.mem_of_getElem? (i := 13) rfl) rfl
  | 2, _ => exact tm5_0 (List.mem_of_getElem? (i := 15) rfl) rfl
  | 3, _ => exact tm5_1 (List.mem_of_getElem? (i := 1) rfl) rfl
  | 4, _ => exact tm5_1 (List.mem_of_getElem? (i := 3) rfl) rfl
  | 5, _ => exact tm5_1 (List.mem_of_getElem? (i := 5) rfl) rfl
  | 6, _ => exact tm5_1 (List.mem_of_getElem? (i := 7) rfl) rfl
  | 7, _ => exact tm5_1 (List.mem_of_getElem? (i := 9) rfl) rfl
  | 8, _ => exact tm5_1 (List.mem_of_getElem? (i := 11) rfl) rfl
  | 9, _ => exact tm5_1 (List.mem_of_getElem? (i := 13) rfl) rfl
  | 10, _ => exact tm5_1 (List.mem_of_getElem? (i := 15) rfl) rfl
  | 11, _ => exact tm5_2 (List.mem_of_getElem? (i := 1) rfl) rfl
  | 12, _ => exact tm5_2 (List.mem_of_getElem? (i := 3) rfl) rfl
  | 13, _ => exact tm5_2 (List.mem_of_getElem? (i := 5) rfl) rfl
  | 14, _ => exact tm5_2 (List.mem_of_getElem? (i := 7) rfl) rfl
  | 15, _ => exact tm5_2 (List.mem_of_getElem? (i := 9) rfl) rfl
  | 16, _ => exact tm5_2 (List.mem_of_getElem? (i := 11) rfl) rfl
  | 17, _ => exact tm5_2 (List.mem_of_getElem? (i := 13) rfl) rfl
  | 18, _ => exact tm5_2 (List.mem_of_getElem? (i := 15) rfl) rfl
  | 19, _ => exact tm5_3 (List.mem_of_getElem? (i := 1) rfl) rfl
  | 20, _ => exact tm5_3 (List.mem_of_getElem? (i := 3) rfl) rfl
  | 21, _ => exact tm5_3 (List.mem_of_getElem? (i := 5) rfl) rfl
  | 22, _ => exact tm5_3 (List.mem_of_getElem? (i := 7) rfl) rfl
  | 23, _ => exact tm5_3 (List.mem_of_getElem? (i := 9) rfl) rfl
  | 24, _ => exact tm5_3 (List.mem_of_getElem? (i := 11) rfl) rfl
  | 25, _ => exact tm5_3 (List.mem_of_getElem? (i := 13) rfl) rfl
  | 26, _ => exact tm5_3 (List.mem_of_getElem? (i := 15) rfl) rfl
  | 27, _ => exact tm5_4 (List.mem_of_getElem? (i := 1) rfl) rfl
  | 28, _ => exact tm5_4 (List.mem_of_getElem? (i := 3) rfl) rfl
  | 29, _ => exact tm5_4 (List.mem_of_getElem? (i := 5) rfl) rfl
  | n + 30, h => exact absurd h (by omega)
abbrev kJ0_charAt_5068e : Kd := (yJ0_charAt_5068e, cJ0_charAt_5068e, 2, some .char, (4, 85), (0, 0))
theorem mJ0_charAt_5068e : MK kJ0_charAt_5068e 1 := ⟨tm4_0 (List.mem_of_getElem? (i := 8) rfl) rfl, tm1_0 (List.mem_of_getElem? (i := 13) rfl) rfl, by decide +kernel, by decide +kernel, by decide +kernel⟩
theorem iJ0_charAt_5068e : Cond.instanceMethod yJ0_charAt_5068e ∈ gdT := tm4_0 (List.mem_of_getElem? (i := 6) rfl) rfl
theorem vJ0_charAt_5068e : Cond.selects RJ0 yJ0_charAt_5068e yJ0_charAt_5068e ∈ gdT := tm4_0 (List.mem_of_getElem? (i := 7) rfl) rfl
abbrev kJ0_checkIndex_df160 : Kd := (yJ0_checkIndex_df160, cJ0_checkIndex_df160, 2, none, (1, 22), (0, 0))
theorem mJ0_checkIndex_df160 : MK kJ0_checkIndex_df160 2 := ⟨tm4_1 (List.mem_of_getElem? (i := 2) rfl) rfl, tm1_0 (List.mem_of_getElem? (i := 13) rfl) rfl, by decide +kernel, by decide +kernel, by decide +kernel⟩
theorem sJ0_checkIndex_df160 : Cond.static yJ0_checkIndex_df160 ∈ gdT := tm4_1 (List.mem_of_getElem? (i := 1) rfl) rfl
abbrev kJ0_coder_7d493 : Kd := (yJ0_coder_7d493, cJ0_coder_7d493, 1, some .byte, (0, 0), (0, 0))
theorem mJ0_coder_7d493 : MK kJ0_coder_7d493 0 := ⟨tm4_0 (List.mem_of_getElem? (i := 2) rfl) rfl, tm1_0 (List.mem_of_getElem? (i := 13) rfl) rfl, by decide +kernel, by decide +kernel, by decide +kernel⟩
theorem iJ0_coder_7d493 : Cond.instanceMethod yJ0_coder_7d493 ∈ gdT := tm4_0 (List.mem_of_getElem? (i := 0) rfl) rfl
theorem vJ0_coder_7d493 : Cond.selects RJ0 yJ0_coder_7d493 yJ0_coder_7d493 ∈ gdT := tm4_0 (List.mem_of_getElem? (i := 1) rfl) rfl
abbrev kJ0_isLatin1_aae02 : Kd := (yJ0_isLatin1_aae02, cJ0_isLatin1_aae02, 1, some .boolean, (0, 0), (0, 0))
theorem mJ0_isLatin1_aae02 : MK kJ0_isLatin1_aae02 0 := ⟨tm4_0 (List.mem_of_getElem? (i := 12) rfl) rfl, tm1_0 (List.mem_of_getElem? (i := 13) rfl) rfl, by decide +kernel, by decide +kernel, by decide +kernel⟩
theorem iJ0_isLatin1_aae02 : Cond.instanceMethod yJ0_isLatin1_aae02 ∈ gdT := tm4_0 (List.mem_of_getElem? (i := 10) rfl) rfl
theorem vJ0_isLatin1_aae02 : Cond.selects RJ0 yJ0_isLatin1_aae02 yJ0_isLatin1_aae02 ∈ gdT := tm4_0 (List.mem_of_getElem? (i := 11) rfl) rfl
abbrev kJ0_length_8abf5 : Kd := (yJ0_length_8abf5, cJ0_length_8abf5, 1, some .int, (1, 20), (0, 0))
theorem mJ0_length_8abf5 : MK kJ0_length_8abf5 0 := ⟨tm3_14 (List.mem_of_getElem? (i := 14) rfl) rfl, tm1_0 (List.mem_of_getElem? (i := 13) rfl) rfl, by decide +kernel, by decide +kernel, by decide +kernel⟩
theorem iJ0_length_8abf5 : Cond.instanceMethod yJ0_length_8abf5 ∈ gdT := tm3_14 (List.mem_of_getElem? (i := 12) rfl) rfl
theorem vJ0_length_8abf5 : Cond.selects RJ0 yJ0_length_8abf5 yJ0_length_8abf5 ∈ gdT := tm3_14 (List.mem_of_getElem? (i := 13) rfl) rfl
abbrev kJ13_bitCount_95d88 : Kd := (yJ13_bitCount_95d88, cJ13_bitCount_95d88, 2, some .int, (0, 0), (0, 0))
theorem mJ13_bitCount_95d88 : MK kJ13_bitCount_95d88 1 := ⟨tm4_7 (List.mem_of_getElem? (i := 12) rfl) rfl, tm1_1 (List.mem_of_getElem? (i := 1) rfl) rfl, by decide +kernel, by decide +kernel, by decide +kernel⟩
theorem sJ13_bitCount_95d88 : Cond.static yJ13_bitCount_95d88 ∈ gdT := tm4_7 (List.mem_of_getElem? (i := 11) rfl) rfl
abbrev kJ1_charAt_3b067 : Kd := (yJ1_charAt_3b067, cJ1_charAt_3b067, 2, some .char, (2, 43), (0, 0))
theorem mJ1_charAt_3b067 : MK kJ1_charAt_3b067 2 := ⟨tm4_0 (List.mem_of_getElem? (i := 15) rfl) rfl, tm1_0 (List.mem_of_getElem? (i := 14) rfl) rfl, by decide +kernel, by decide +kernel, by decide +kernel⟩
theorem sJ1_charAt_3b067 : Cond.static yJ1_charAt_3b067 ∈ gdT := tm4_0 (List.mem_of_getElem? (i := 14) rfl) rfl
abbrev kJ2_charAt_3b067 : Kd := (yJ2_charAt_3b067, cJ2_charAt_3b067, 2, some .char, (3, 64), (0, 0))
theorem mJ2_charAt_3b067 : MK kJ2_charAt_3b067 2 := ⟨tm4_1 (List.mem_of_getElem? (i := 10) rfl) rfl, tm1_1 (List.mem_of_getElem? (i := 0) rfl) rfl, by decide +kernel, by decide +kernel, by decide +kernel⟩
theorem sJ2_charAt_3b067 : Cond.static yJ2_charAt_3b067 ∈ gdT := tm4_1 (List.mem_of_getElem? (i := 9) rfl) rfl
abbrev kJ2_checkIndex_2214a : Kd := (yJ2_checkIndex_2214a, cJ2_checkIndex_2214a, 2, none, (2, 43), (0, 0))
theorem mJ2_checkIndex_2214a : MK kJ2_checkIndex_2214a 2 := ⟨tm4_1 (List.mem_of_getElem? (i := 13) rfl) rfl, tm1_1 (List.mem_of_getElem? (i := 0) rfl) rfl, by decide +kernel, by decide +kernel, by decide +kernel⟩
theorem sJ2_checkIndex_2214a : Cond.static yJ2_checkIndex_2214a ∈ gdT := tm4_1 (List.mem_of_getElem? (i := 12) rfl) rfl
abbrev kJ2_getChar_3b067 : Kd := (yJ2_getChar_3b067, cJ2_getChar_3b067, 2, some .char, (1, 20), (0, 0))
theorem mJ2_getChar_3b067 : MK kJ2_getChar_3b067 2 := ⟨tm4_2 (List.mem_of_getElem? (i := 4) rfl) rfl, tm1_1 (List.mem_of_getElem? (i := 0) rfl) rfl, by decide +kernel, by decide +kernel, by decide +kernel⟩
theorem sJ2_getChar_3b067 : Cond.static yJ2_getChar_3b067 ∈ gdT := tm4_2 (List.mem_of_getElem? (i := 3) rfl) rfl
abbrev kJ2_length_9d52b : Kd := (yJ2_length_9d52b, cJ2_length_9d52b, 1, some .int, (0, 0), (0, 0))
theorem mJ2_length_9d52b : MK kJ2_length_9d52b 1 := ⟨tm4_2 (List.mem_of_getElem? (i := 0) rfl) rfl, tm1_1 (List.mem_of_getElem? (i := 0) rfl) rfl, by decide +kernel, by decide +kernel, by decide +kernel⟩
theorem sJ2_length_9d52b : Cond.static yJ2_length_9d52b ∈ gdT := tm4_1 (List.mem_of_getElem? (i := 15) rfl) rfl
abbrev kJ3_checkIndex_8e157 : Kd := (yJ3_checkIndex_8e157, cJ3_checkIndex_8e157, 3, some .int, (0, 0), (0, 0))
theorem mJ3_checkIndex_8e157 : MK kJ3_checkIndex_8e157 3 := ⟨tm4_1 (List.mem_of_getElem? (i := 7) rfl) rfl, tm1_0 (List.mem_of_getElem? (i := 15) rfl) rfl, by decide +kernel, by decide +kernel, by decide +kernel⟩
theorem sJ3_checkIndex_8e157 : Cond.static yJ3_checkIndex_8e157 ∈ gdT := tm4_1 (List.mem_of_getElem? (i := 6) rfl) rfl
abbrev kJ6_bitCount_0f7a4 : Kd := (yJ6_bitCount_0f7a4, cJ6_bitCount_0f7a4, 1, some .int, (0, 0), (0, 0))
theorem mJ6_bitCount_0f7a4 : MK kJ6_bitCount_0f7a4 1 := ⟨tm2_6 (List.mem_of_getElem? (i := 3) rfl) rfl, tm1_0 (List.mem_of_getElem? (i := 12) rfl) rfl, by decide +kernel, by decide +kernel, by decide +kernel⟩
theorem sJ6_bitCount_0f7a4 : Cond.static yJ6_bitCount_0f7a4 ∈ gdT := tm2_6 (List.mem_of_getElem? (i := 2) rfl) rfl
abbrev kJ7_fill_53178 : Kd := (yJ7_fill_53178, cJ7_fill_53178, 4, none, (0, 0), (0, 0))
theorem mJ7_fill_53178 : MK kJ7_fill_53178 2 := ⟨tm1_11 (List.mem_of_getElem? (i := 10) rfl) rfl, tm1_0 (List.mem_of_getElem? (i := 9) rfl) rfl, by decide +kernel, by decide +kernel, by decide +kernel⟩
theorem sJ7_fill_53178 : Cond.static yJ7_fill_53178 ∈ gdT := tm1_11 (List.mem_of_getElem? (i := 9) rfl) rfl
abbrev kJ7_fill_d0a16 : Kd := (yJ7_fill_d0a16, cJ7_fill_d0a16, 5, none, (0, 0), (0, 0))
theorem mJ7_fill_d0a16 : MK kJ7_fill_d0a16 2 := ⟨tm4_4 (List.mem_of_getElem? (i := 10) rfl) rfl, tm1_0 (List.mem_of_getElem? (i := 9) rfl) rfl, by decide +kernel, by decide +kernel, by decide +kernel⟩
theorem sJ7_fill_d0a16 : Cond.static yJ7_fill_d0a16 ∈ gdT := tm4_4 (List.mem_of_getElem? (i := 9) rfl) rfl
abbrev kJ9_max_7cf53 : Kd := (yJ9_max_7cf53, cJ9_max_7cf53, 2, some .int, (0, 0), (0, 0))
theorem mJ9_max_7cf53 : MK kJ9_max_7cf53 2 := ⟨tm4_6 (List.mem_of_getElem? (i := 5) rfl) rfl, tm1_0 (List.mem_of_getElem? (i := 11) rfl) rfl, by decide +kernel, by decide +kernel, by decide +kernel⟩
theorem sJ9_max_7cf53 : Cond.static yJ9_max_7cf53 ∈ gdT := tm4_6 (List.mem_of_getElem? (i := 4) rfl) rfl
abbrev kJ9_min_7cf53 : Kd := (yJ9_min_7cf53, cJ9_min_7cf53, 2, some .int, (0, 0), (0, 0))
theorem mJ9_min_7cf53 : MK kJ9_min_7cf53 2 := ⟨tm2_2 (List.mem_of_getElem? (i := 5) rfl) rfl, tm1_0 (List.mem_of_getElem? (i := 11) rfl) rfl, by decide +kernel, by decide +kernel, by decide +kernel⟩
theorem sJ9_min_7cf53 : Cond.static yJ9_min_7cf53 ∈ gdT := tm2_2 (List.mem_of_getElem? (i := 4) rfl) rfl
abbrev kL_law : Kd := (yL_law, cL_law, 4, some .boolean, (12, 444), (600000, 7302249))
abbrev kX0_begin : Kd := (yX0_begin, cX0_begin, 2, none, (3, 62), (1, 1060))
theorem mX0_begin : MK kX0_begin 1 := ⟨tm1_4 (List.mem_of_getElem? (i := 9) rfl) rfl, tm1_0 (List.mem_of_getElem? (i := 4) rfl) rfl, by decide +kernel, by decide +kernel, by decide +kernel⟩
theorem iX0_begin : Cond.instanceMethod yX0_begin ∈ gdT := tm1_4 (List.mem_of_getElem? (i := 7) rfl) rfl
theorem vX0_begin : Cond.selects RX0 yX0_begin yX0_begin ∈ gdT := tm1_4 (List.mem_of_getElem? (i := 8) rfl) rfl
abbrev kX0_init : Kd := (yX0_init, cX0_init, 1, none, (1, 14), (1, 31))
theorem mX0_init : MK kX0_init 0 := ⟨tm1_3 (List.mem_of_getElem? (i := 3) rfl) rfl, tm1_0 (List.mem_of_getElem? (i := 4) rfl) rfl, by decide +kernel, by decide +kernel, by decide +kernel⟩
theorem iX0_init : Cond.instanceMethod yX0_init ∈ gdT := tm1_3 (List.mem_of_getElem? (i := 2) rfl) rfl
abbrev kX0_keepHere : Kd := (yX0_keepHere, cX0_keepHere, 2, none, (2, 41), (1, 1060))
theorem mX0_keepHere : MK kX0_keepHere 1 := ⟨tm1_4 (List.mem_of_getElem? (i := 13) rfl) rfl, tm1_0 (List.mem_of_getElem? (i := 4) rfl) rfl, by decide +kernel, by decide +kernel, by decide +kernel⟩
theorem iX0_keepHere : Cond.instanceMethod yX0_keepHere ∈ gdT := tm1_4 (List.mem_of_getElem? (i := 12) rfl) rfl
theorem vX0_keepHere : Cond.selects RX0 yX0_keepHere yX0_keepHere ∈ gdT := tp (i := 0) (by decide +kernel) rfl
abbrev kX0_note : Kd := (yX0_note, cX0_note, 2, none, (3, 62), (1, 1060))
theorem mX0_note : MK kX0_note 1 := ⟨tm2_2 (List.mem_of_getElem? (i := 2) rfl) rfl, tm1_0 (List.mem_of_getElem? (i := 4) rfl) rfl, by decide +kernel, by decide +kernel, by decide +kernel⟩
theorem iX0_note : Cond.instanceMethod yX0_note ∈ gdT := tm2_2 (List.mem_of_getElem? (i := 0) rfl) rfl
theorem vX0_note : Cond.selects RX0 yX0_note yX0_note ∈ gdT := tm2_2 (List.mem_of_getElem? (i := 1) rfl) rfl
abbrev kX0_stepBack : Kd := (yX0_stepBack, cX0_stepBack, 2, some .boolean, (3, 63), (0, 0))
theorem mX0_stepBack : MK kX0_stepBack 1 := ⟨tm2_12 (List.mem_of_getElem? (i := 10) rfl) rfl, tm1_0 (List.mem_of_getElem? (i := 4) rfl) rfl, by decide +kernel, by decide +kernel, by decide +kernel⟩
theorem iX0_stepBack : Cond.instanceMethod yX0_stepBack ∈ gdT := tm2_12 (List.mem_of_getElem? (i := 8) rfl) rfl
theorem vX0_stepBack : Cond.selects RX0 yX0_stepBack yX0_stepBack ∈ gdT := tm2_12 (List.mem_of_getElem? (i := 9) rfl) rfl
abbrev kX0_stepOn : Kd := (yX0_stepOn, cX0_stepOn, 2, some .boolean, (3, 63), (0, 0))
theorem mX0_stepOn : MK kX0_stepOn 1 := ⟨tm2_13 (List.mem_of_getElem? (i := 10) rfl) rfl, tm1_0 (List.mem_of_getElem? (i := 4) rfl) rfl, by decide +kernel, by decide +kernel, by decide +kernel⟩
theorem iX0_stepOn : Cond.instanceMethod yX0_stepOn ∈ gdT := tm2_13 (List.mem_of_getElem? (i := 8) rfl) rfl
theorem vX0_stepOn : Cond.selects RX0 yX0_stepOn yX0_stepOn ∈ gdT := tm2_13 (List.mem_of_getElem? (i := 9) rfl) rfl
abbrev kX0_stepTo : Kd := (yX0_stepTo, cX0_stepTo, 3, some .boolean, (2, 41), (0, 0))
theorem mX0_stepTo : MK kX0_stepTo 2 := ⟨tm2_12 (List.mem_of_getElem? (i := 14) rfl) rfl, tm1_0 (List.mem_of_getElem? (i := 4) rfl) rfl, by decide +kernel, by decide +kernel, by decide +kernel⟩
theorem iX0_stepTo : Cond.instanceMethod yX0_stepTo ∈ gdT := tm2_12 (List.mem_of_getElem? (i := 13) rfl) rfl
theorem vX0_stepTo : Cond.selects RX0 yX0_stepTo yX0_stepTo ∈ gdT := tp (i := 14) (by decide +kernel) rfl
abbrev kX1_beginOrder : Kd := (yX1_beginOrder, cX1_beginOrder, 6, none, (0, 0), (0, 0))
theorem mX1_beginOrder : MK kX1_beginOrder 2 := ⟨tm4_4 (List.mem_of_getElem? (i := 14) rfl) rfl, tm1_0 (List.mem_of_getElem? (i := 6) rfl) rfl, by decide +kernel, by decide +kernel, by decide +kernel⟩
theorem iX1_beginOrder : Cond.instanceMethod yX1_beginOrder ∈ gdT := tm4_4 (List.mem_of_getElem? (i := 13) rfl) rfl
theorem vX1_beginOrder : Cond.selects RX1 yX1_beginOrder yX1_beginOrder ∈ gdT := tp (i := 29) (by decide +kernel) rfl
abbrev kX1_goThrough : Kd := (yX1_goThrough, cX1_goThrough, 9, none, (5, 124), (0, 0))
theorem mX1_goThrough : MK kX1_goThrough 4 := ⟨tm4_4 (List.mem_of_getElem? (i := 6) rfl) rfl, tm1_0 (List.mem_of_getElem? (i := 6) rfl) rfl, by decide +kernel, by decide +kernel, by decide +kernel⟩
theorem iX1_goThrough : Cond.instanceMethod yX1_goThrough ∈ gdT := tm4_4 (List.mem_of_getElem? (i := 4) rfl) rfl
theorem vX1_goThrough : Cond.selects RX1 yX1_goThrough yX1_goThrough ∈ gdT := tm4_4 (List.mem_of_getElem? (i := 5) rfl) rfl
abbrev kX1_init : Kd := (yX1_init, cX1_init, 2, none, (1, 14), (4, 38))
theorem mX1_init : MK kX1_init 1 := ⟨tm1_6 (List.mem_of_getElem? (i := 12) rfl) rfl, tm1_0 (List.mem_of_getElem? (i := 6) rfl) rfl, by decide +kernel, by decide +kernel, by decide +kernel⟩
theorem iX1_init : Cond.instanceMethod yX1_init ∈ gdT := tm1_6 (List.mem_of_getElem? (i := 11) rfl) rfl
abbrev kX1_outcome : Kd := (yX1_outcome, cX1_outcome, 2, some .int, (2, 43), (0, 0))
theorem mX1_outcome : MK kX1_outcome 1 := ⟨tm4_7 (List.mem_of_getElem? (i := 5) rfl) rfl, tm1_0 (List.mem_of_getElem? (i := 6) rfl) rfl, by decide +kernel, by decide +kernel, by decide +kernel⟩
theorem iX1_outcome : Cond.instanceMethod yX1_outcome ∈ gdT := tm4_7 (List.mem_of_getElem? (i := 3) rfl) rfl
theorem vX1_outcome : Cond.selects RX1 yX1_outcome yX1_outcome ∈ gdT := tm4_7 (List.mem_of_getElem? (i := 4) rfl) rfl
abbrev kX1_swap : Kd := (yX1_swap, cX1_swap, 4, none, (0, 0), (0, 0))
theorem mX1_swap : MK kX1_swap 2 := ⟨tm4_7 (List.mem_of_getElem? (i := 1) rfl) rfl, tm1_0 (List.mem_of_getElem? (i := 6) rfl) rfl, by decide +kernel, by decide +kernel, by decide +kernel⟩
theorem iX1_swap : Cond.instanceMethod yX1_swap ∈ gdT := tm4_7 (List.mem_of_getElem? (i := 0) rfl) rfl
theorem vX1_swap : Cond.selects RX1 yX1_swap yX1_swap ∈ gdT := tp (i := 32) (by decide +kernel) rfl
abbrev kX1_turnToNextOrder : Kd := (yX1_turnToNextOrder, cX1_turnToNextOrder, 5, some .boolean, (1, 23), (0, 0))
theorem mX1_turnToNextOrder : MK kX1_turnToNextOrder 0 := ⟨tm4_6 (List.mem_of_getElem? (i := 13) rfl) rfl, tm1_0 (List.mem_of_getElem? (i := 6) rfl) rfl, by decide +kernel, by decide +kernel, by decide +kernel⟩
theorem iX1_turnToNextOrder : Cond.instanceMethod yX1_turnToNextOrder ∈ gdT := tm4_6 (List.mem_of_getElem? (i := 12) rfl) rfl
theorem vX1_turnToNextOrder : Cond.selects RX1 yX1_turnToNextOrder yX1_turnToNextOrder ∈ gdT := tp (i := 31) (by decide +kernel) rfl
abbrev kX1_valuesFound : Kd := (yX1_valuesFound, cX1_valuesFound, 3, some .int, (1, 21), (0, 0))
theorem mX1_valuesFound : MK kX1_valuesFound 0 := ⟨tm4_7 (List.mem_of_getElem? (i := 9) rfl) rfl, tm1_0 (List.mem_of_getElem? (i := 6) rfl) rfl, by decide +kernel, by decide +kernel, by decide +kernel⟩
theorem iX1_valuesFound : Cond.instanceMethod yX1_valuesFound ∈ gdT := tm4_7 (List.mem_of_getElem? (i := 8) rfl) rfl
theorem vX1_valuesFound : Cond.selects RX1 yX1_valuesFound yX1_valuesFound ∈ gdT := tp (i := 33) (by decide +kernel) rfl
abbrev kX1_weigh : Kd := (yX1_weigh, cX1_weigh, 4, none, (3, 68), (0, 0))
theorem mX1_weigh : MK kX1_weigh 2 := ⟨tm4_6 (List.mem_of_getElem? (i := 1) rfl) rfl, tm1_0 (List.mem_of_getElem? (i := 6) rfl) rfl, by decide +kernel, by decide +kernel, by decide +kernel⟩
theorem iX1_weigh : Cond.instanceMethod yX1_weigh ∈ gdT := tm4_6 (List.mem_of_getElem? (i := 0) rfl) rfl
theorem vX1_weigh : Cond.selects RX1 yX1_weigh yX1_weigh ∈ gdT := tp (i := 30) (by decide +kernel) rfl
abbrev kX1_witnessAt : Kd := (yX1_witnessAt, cX1_witnessAt, 2, some .int, (0, 0), (0, 0))
theorem mX1_witnessAt : MK kX1_witnessAt 1 := ⟨tm4_8 (List.mem_of_getElem? (i := 7) rfl) rfl, tm1_0 (List.mem_of_getElem? (i := 6) rfl) rfl, by decide +kernel, by decide +kernel, by decide +kernel⟩
theorem iX1_witnessAt : Cond.instanceMethod yX1_witnessAt ∈ gdT := tm4_8 (List.mem_of_getElem? (i := 5) rfl) rfl
theorem vX1_witnessAt : Cond.selects RX1 yX1_witnessAt yX1_witnessAt ∈ gdT := tm4_8 (List.mem_of_getElem? (i := 6) rfl) rfl
abbrev kX2_add : Kd := (yX2_add, cX2_add, 4, none, (0, 0), (0, 0))
theorem mX2_add : MK kX2_add 3 := ⟨tm4_3 (List.mem_of_getElem? (i := 5) rfl) rfl, tm1_0 (List.mem_of_getElem? (i := 8) rfl) rfl, by decide +kernel, by decide +kernel, by decide +kernel⟩
theorem iX2_add : Cond.instanceMethod yX2_add ∈ gdT := tm4_3 (List.mem_of_getElem? (i := 3) rfl) rfl
theorem vX2_add : Cond.selects RX2 yX2_add yX2_add ∈ gdT := tm4_3 (List.mem_of_getElem? (i := 4) rfl) rfl
abbrev kX2_init : Kd := (yX2_init, cX2_init, 1, none, (1, 14), (3, 15))
theorem mX2_init : MK kX2_init 0 := ⟨tm1_10 (List.mem_of_getElem? (i := 4) rfl) rfl, tm1_0 (List.mem_of_getElem? (i := 8) rfl) rfl, by decide +kernel, by decide +kernel, by decide +kernel⟩
theorem iX2_init : Cond.instanceMethod yX2_init ∈ gdT := tm1_10 (List.mem_of_getElem? (i := 3) rfl) rfl
abbrev kX2_perform : Kd := (yX2_perform, cX2_perform, 4, none, (4, 101), (0, 0))
theorem mX2_perform : MK kX2_perform 3 := ⟨tm4_5 (List.mem_of_getElem? (i := 5) rfl) rfl, tm1_0 (List.mem_of_getElem? (i := 8) rfl) rfl, by decide +kernel, by decide +kernel, by decide +kernel⟩
theorem iX2_perform : Cond.instanceMethod yX2_perform ∈ gdT := tm4_5 (List.mem_of_getElem? (i := 3) rfl) rfl
theorem vX2_perform : Cond.selects RX2 yX2_perform yX2_perform ∈ gdT := tm4_5 (List.mem_of_getElem? (i := 4) rfl) rfl
abbrev kX3_fillAll : Kd := (yX3_fillAll, cX3_fillAll, 4, some .int, (4, 101), (0, 0))
theorem mX3_fillAll : MK kX3_fillAll 2 := ⟨tm3_8 (List.mem_of_getElem? (i := 9) rfl) rfl, tm1_0 (List.mem_of_getElem? (i := 5) rfl) rfl, by decide +kernel, by decide +kernel, by decide +kernel⟩
theorem iX3_fillAll : Cond.instanceMethod yX3_fillAll ∈ gdT := tm3_8 (List.mem_of_getElem? (i := 8) rfl) rfl
theorem vX3_fillAll : Cond.selects RX3 yX3_fillAll yX3_fillAll ∈ gdT := tp (i := 19) (by decide +kernel) rfl
abbrev kX3_init : Kd := (yX3_init, cX3_init, 2, none, (1, 14), (0, 0))
theorem mX3_init : MK kX3_init 1 := ⟨tm1_5 (List.mem_of_getElem? (i := 6) rfl) rfl, tm1_0 (List.mem_of_getElem? (i := 5) rfl) rfl, by decide +kernel, by decide +kernel, by decide +kernel⟩
theorem iX3_init : Cond.instanceMethod yX3_init ∈ gdT := tm1_5 (List.mem_of_getElem? (i := 5) rfl) rfl
abbrev kX3_lookAll : Kd := (yX3_lookAll, cX3_lookAll, 5, some .int, (3, 69), (0, 0))
theorem mX3_lookAll : MK kX3_lookAll 2 := ⟨tm3_8 (List.mem_of_getElem? (i := 0) rfl) rfl, tm1_0 (List.mem_of_getElem? (i := 5) rfl) rfl, by decide +kernel, by decide +kernel, by decide +kernel⟩
theorem iX3_lookAll : Cond.instanceMethod yX3_lookAll ∈ gdT := tm3_7 (List.mem_of_getElem? (i := 15) rfl) rfl
theorem vX3_lookAll : Cond.selects RX3 yX3_lookAll yX3_lookAll ∈ gdT := tp (i := 18) (by decide +kernel) rfl
abbrev kX3_obtainAll : Kd := (yX3_obtainAll, cX3_obtainAll, 7, some .int, (3, 69), (0, 0))
theorem mX3_obtainAll : MK kX3_obtainAll 3 := ⟨tm3_7 (List.mem_of_getElem? (i := 11) rfl) rfl, tm1_0 (List.mem_of_getElem? (i := 5) rfl) rfl, by decide +kernel, by decide +kernel, by decide +kernel⟩
theorem iX3_obtainAll : Cond.instanceMethod yX3_obtainAll ∈ gdT := tm3_7 (List.mem_of_getElem? (i := 10) rfl) rfl
theorem vX3_obtainAll : Cond.selects RX3 yX3_obtainAll yX3_obtainAll ∈ gdT := tp (i := 17) (by decide +kernel) rfl
abbrev kX3_outcome : Kd := (yX3_outcome, cX3_outcome, 2, some .int, (0, 0), (0, 0))
theorem mX3_outcome : MK kX3_outcome 1 := ⟨tm3_8 (List.mem_of_getElem? (i := 15) rfl) rfl, tm1_0 (List.mem_of_getElem? (i := 5) rfl) rfl, by decide +kernel, by decide +kernel, by decide +kernel⟩
theorem iX3_outcome : Cond.instanceMethod yX3_outcome ∈ gdT := tm3_8 (List.mem_of_getElem? (i := 13) rfl) rfl
theorem vX3_outcome : Cond.selects RX3 yX3_outcome yX3_outcome ∈ gdT := tm3_8 (List.mem_of_getElem? (i := 14) rfl) rfl
abbrev kX3_run : Kd := (yX3_run, cX3_run, 7, none, (5, 124), (0, 0))
theorem mX3_run : MK kX3_run 3 := ⟨tm3_7 (List.mem_of_getElem? (i := 1) rfl) rfl, tm1_0 (List.mem_of_getElem? (i := 5) rfl) rfl, by decide +kernel, by decide +kernel, by decide +kernel⟩
theorem iX3_run : Cond.instanceMethod yX3_run ∈ gdT := tm3_6 (List.mem_of_getElem? (i := 15) rfl) rfl
theorem vX3_run : Cond.selects RX3 yX3_run yX3_run ∈ gdT := tm3_7 (List.mem_of_getElem? (i := 0) rfl) rfl
abbrev kX4_append : Kd := (yX4_append, cX4_append, 2, some .boolean, (0, 0), (0, 0))
theorem mX4_append : MK kX4_append 1 := ⟨tm3_12 (List.mem_of_getElem? (i := 11) rfl) rfl, tm1_0 (List.mem_of_getElem? (i := 7) rfl) rfl, by decide +kernel, by decide +kernel, by decide +kernel⟩
theorem iX4_append : Cond.instanceMethod yX4_append ∈ gdT := tm3_12 (List.mem_of_getElem? (i := 9) rfl) rfl
theorem vX4_append : Cond.selects RX4 yX4_append yX4_append ∈ gdT := tm3_12 (List.mem_of_getElem? (i := 10) rfl) rfl
abbrev kX4_init : Kd := (yX4_init, cX4_init, 1, none, (1, 14), (1, 160))
theorem mX4_init : MK kX4_init 0 := ⟨tm1_9 (List.mem_of_getElem? (i := 2) rfl) rfl, tm1_0 (List.mem_of_getElem? (i := 7) rfl) rfl, by decide +kernel, by decide +kernel, by decide +kernel⟩
theorem iX4_init : Cond.instanceMethod yX4_init ∈ gdT := tm1_9 (List.mem_of_getElem? (i := 1) rfl) rfl
abbrev kX4_mostOf : Kd := (yX4_mostOf, cX4_mostOf, 1, some .int, (0, 0), (0, 0))
theorem mX4_mostOf : MK kX4_mostOf 1 := ⟨tm4_2 (List.mem_of_getElem? (i := 13) rfl) rfl, tm1_0 (List.mem_of_getElem? (i := 7) rfl) rfl, by decide +kernel, by decide +kernel, by decide +kernel⟩
theorem sX4_mostOf : Cond.static yX4_mostOf ∈ gdT := tm4_2 (List.mem_of_getElem? (i := 12) rfl) rfl
abbrev kX4_readAct : Kd := (yX4_readAct, cX4_readAct, 5, some .boolean, (7, 151), (0, 0))
theorem mX4_readAct : MK kX4_readAct 1 := ⟨tm3_13 (List.mem_of_getElem? (i := 7) rfl) rfl, tm1_0 (List.mem_of_getElem? (i := 7) rfl) rfl, by decide +kernel, by decide +kernel, by decide +kernel⟩
theorem iX4_readAct : Cond.instanceMethod yX4_readAct ∈ gdT := tm3_13 (List.mem_of_getElem? (i := 6) rfl) rfl
theorem vX4_readAct : Cond.selects RX4 yX4_readAct yX4_readAct ∈ gdT := tp (i := 23) (by decide +kernel) rfl
abbrev kX4_readInto : Kd := (yX4_readInto, cX4_readInto, 3, some .int, (8, 175), (0, 0))
theorem mX4_readInto : MK kX4_readInto 1 := ⟨tm3_13 (List.mem_of_getElem? (i := 3) rfl) rfl, tm1_0 (List.mem_of_getElem? (i := 7) rfl) rfl, by decide +kernel, by decide +kernel, by decide +kernel⟩
theorem iX4_readInto : Cond.instanceMethod yX4_readInto ∈ gdT := tm3_13 (List.mem_of_getElem? (i := 1) rfl) rfl
theorem vX4_readInto : Cond.selects RX4 yX4_readInto yX4_readInto ∈ gdT := tm3_13 (List.mem_of_getElem? (i := 2) rfl) rfl
abbrev kX4_readNumber : Kd := (yX4_readNumber, cX4_readNumber, 5, some .int, (0, 0), (0, 0))
theorem mX4_readNumber : MK kX4_readNumber 2 := ⟨tm4_3 (List.mem_of_getElem? (i := 1) rfl) rfl, tm1_0 (List.mem_of_getElem? (i := 7) rfl) rfl, by decide +kernel, by decide +kernel, by decide +kernel⟩
theorem iX4_readNumber : Cond.instanceMethod yX4_readNumber ∈ gdT := tm4_3 (List.mem_of_getElem? (i := 0) rfl) rfl
theorem vX4_readNumber : Cond.selects RX4 yX4_readNumber yX4_readNumber ∈ gdT := tp (i := 26) (by decide +kernel) rfl
abbrev kX4_readWord : Kd := (yX4_readWord, cX4_readWord, 3, some .int, (6, 129), (0, 0))
theorem mX4_readWord : MK kX4_readWord 0 := ⟨tm3_13 (List.mem_of_getElem? (i := 11) rfl) rfl, tm1_0 (List.mem_of_getElem? (i := 7) rfl) rfl, by decide +kernel, by decide +kernel, by decide +kernel⟩
theorem iX4_readWord : Cond.instanceMethod yX4_readWord ∈ gdT := tm3_13 (List.mem_of_getElem? (i := 10) rfl) rfl
theorem vX4_readWord : Cond.selects RX4 yX4_readWord yX4_readWord ∈ gdT := tp (i := 24) (by decide +kernel) rfl
abbrev kX4_stands : Kd := (yX4_stands, cX4_stands, 4, some .boolean, (5, 106), (0, 0))
theorem mX4_stands : MK kX4_stands 2 := ⟨tm3_14 (List.mem_of_getElem? (i := 10) rfl) rfl, tm1_0 (List.mem_of_getElem? (i := 7) rfl) rfl, by decide +kernel, by decide +kernel, by decide +kernel⟩
theorem iX4_stands : Cond.instanceMethod yX4_stands ∈ gdT := tm3_14 (List.mem_of_getElem? (i := 9) rfl) rfl
theorem vX4_stands : Cond.selects RX4 yX4_stands yX4_stands ∈ gdT := tp (i := 25) (by decide +kernel) rfl
abbrev kX4_wordOf : Kd := (yX4_wordOf, cX4_wordOf, 1, some (.object "java/lang/String"), (0, 0), (0, 0))
theorem mX4_wordOf : MK kX4_wordOf 1 := ⟨tm3_13 (List.mem_of_getElem? (i := 14) rfl) rfl, tm1_0 (List.mem_of_getElem? (i := 7) rfl) rfl, by decide +kernel, by decide +kernel, by decide +kernel⟩
theorem sX4_wordOf : Cond.static yX4_wordOf ∈ gdT := tm3_13 (List.mem_of_getElem? (i := 13) rfl) rfl
abbrev kX5_allLoads : Kd := (yX5_allLoads, cX5_allLoads, 3, some .int, (1, 21), (0, 0))
theorem mX5_allLoads : MK kX5_allLoads 0 := ⟨tm3_7 (List.mem_of_getElem? (i := 5) rfl) rfl, tm1_0 (List.mem_of_getElem? (i := 2) rfl) rfl, by decide +kernel, by decide +kernel, by decide +kernel⟩
theorem iX5_allLoads : Cond.instanceMethod yX5_allLoads ∈ gdT := tm3_7 (List.mem_of_getElem? (i := 3) rfl) rfl
theorem vX5_allLoads : Cond.selects RX5 yX5_allLoads yX5_allLoads ∈ gdT := tm3_7 (List.mem_of_getElem? (i := 4) rfl) rfl
abbrev kX5_answerBesideLease : Kd := (yX5_answerBesideLease, cX5_answerBesideLease, 2, some .int, (1, 21), (0, 0))
theorem mX5_answerBesideLease : MK kX5_answerBesideLease 1 := ⟨tm2_1 (List.mem_of_getElem? (i := 2) rfl) rfl, tm1_0 (List.mem_of_getElem? (i := 2) rfl) rfl, by decide +kernel, by decide +kernel, by decide +kernel⟩
theorem iX5_answerBesideLease : Cond.instanceMethod yX5_answerBesideLease ∈ gdT := tm2_1 (List.mem_of_getElem? (i := 1) rfl) rfl
theorem vX5_answerBesideLease : Cond.selects RX5 yX5_answerBesideLease yX5_answerBesideLease ∈ gdT := tp (i := 3) (by decide +kernel) rfl
abbrev kX5_applyAll : Kd := (yX5_applyAll, cX5_applyAll, 4, some .int, (4, 87), (0, 0))
theorem mX5_applyAll : MK kX5_applyAll 0 := ⟨tm3_9 (List.mem_of_getElem? (i := 7) rfl) rfl, tm1_0 (List.mem_of_getElem? (i := 2) rfl) rfl, by decide +kernel, by decide +kernel, by decide +kernel⟩
theorem iX5_applyAll : Cond.instanceMethod yX5_applyAll ∈ gdT := tm3_9 (List.mem_of_getElem? (i := 5) rfl) rfl
theorem vX5_applyAll : Cond.selects RX5 yX5_applyAll yX5_applyAll ∈ gdT := tm3_9 (List.mem_of_getElem? (i := 6) rfl) rfl
abbrev kX5_applyNext : Kd := (yX5_applyNext, cX5_applyNext, 4, some .int, (3, 64), (0, 0))
theorem mX5_applyNext : MK kX5_applyNext 1 := ⟨tm2_8 (List.mem_of_getElem? (i := 8) rfl) rfl, tm1_0 (List.mem_of_getElem? (i := 2) rfl) rfl, by decide +kernel, by decide +kernel, by decide +kernel⟩
theorem iX5_applyNext : Cond.instanceMethod yX5_applyNext ∈ gdT := tm2_8 (List.mem_of_getElem? (i := 6) rfl) rfl
theorem vX5_applyNext : Cond.selects RX5 yX5_applyNext yX5_applyNext ∈ gdT := tm2_8 (List.mem_of_getElem? (i := 7) rfl) rfl
abbrev kX5_besidePart : Kd := (yX5_besidePart, cX5_besidePart, 5, some .int, (1, 21), (0, 0))
theorem mX5_besidePart : MK kX5_besidePart 3 := ⟨tm3_0 (List.mem_of_getElem? (i := 0) rfl) rfl, tm1_0 (List.mem_of_getElem? (i := 2) rfl) rfl, by decide +kernel, by decide +kernel, by decide +kernel⟩
theorem iX5_besidePart : Cond.instanceMethod yX5_besidePart ∈ gdT := tm2_14 (List.mem_of_getElem? (i := 14) rfl) rfl
theorem vX5_besidePart : Cond.selects RX5 yX5_besidePart yX5_besidePart ∈ gdT := tm2_14 (List.mem_of_getElem? (i := 15) rfl) rfl
abbrev kX5_bringIn : Kd := (yX5_bringIn, cX5_bringIn, 6, some .int, (3, 76), (0, 0))
theorem mX5_bringIn : MK kX5_bringIn 1 := ⟨tm2_5 (List.mem_of_getElem? (i := 0) rfl) rfl, tm1_0 (List.mem_of_getElem? (i := 2) rfl) rfl, by decide +kernel, by decide +kernel, by decide +kernel⟩
theorem iX5_bringIn : Cond.instanceMethod yX5_bringIn ∈ gdT := tm2_4 (List.mem_of_getElem? (i := 14) rfl) rfl
theorem vX5_bringIn : Cond.selects RX5 yX5_bringIn yX5_bringIn ∈ gdT := tm2_4 (List.mem_of_getElem? (i := 15) rfl) rfl
abbrev kX5_change : Kd := (yX5_change, cX5_change, 4, some .int, (1, 21), (0, 0))
theorem mX5_change : MK kX5_change 2 := ⟨tm2_11 (List.mem_of_getElem? (i := 0) rfl) rfl, tm1_0 (List.mem_of_getElem? (i := 2) rfl) rfl, by decide +kernel, by decide +kernel, by decide +kernel⟩
theorem iX5_change : Cond.instanceMethod yX5_change ∈ gdT := tm2_10 (List.mem_of_getElem? (i := 14) rfl) rfl
theorem vX5_change : Cond.selects RX5 yX5_change yX5_change ∈ gdT := tm2_10 (List.mem_of_getElem? (i := 15) rfl) rfl
abbrev kX5_clientPart : Kd := (yX5_clientPart, cX5_clientPart, 6, some .int, (1, 20), (0, 0))
theorem mX5_clientPart : MK kX5_clientPart 2 := ⟨tm3_0 (List.mem_of_getElem? (i := 10) rfl) rfl, tm1_0 (List.mem_of_getElem? (i := 2) rfl) rfl, by decide +kernel, by decide +kernel, by decide +kernel⟩
theorem iX5_clientPart : Cond.instanceMethod yX5_clientPart ∈ gdT := tm3_0 (List.mem_of_getElem? (i := 8) rfl) rfl
theorem vX5_clientPart : Cond.selects RX5 yX5_clientPart yX5_clientPart ∈ gdT := tm3_0 (List.mem_of_getElem? (i := 9) rfl) rfl
abbrev kX5_copyFrom : Kd := (yX5_copyFrom, cX5_copyFrom, 2, none, (1, 20), (0, 0))
theorem mX5_copyFrom : MK kX5_copyFrom 1 := ⟨tm2_13 (List.mem_of_getElem? (i := 2) rfl) rfl, tm1_0 (List.mem_of_getElem? (i := 2) rfl) rfl, by decide +kernel, by decide +kernel, by decide +kernel⟩
theorem iX5_copyFrom : Cond.instanceMethod yX5_copyFrom ∈ gdT := tm2_13 (List.mem_of_getElem? (i := 0) rfl) rfl
theorem vX5_copyFrom : Cond.selects RX5 yX5_copyFrom yX5_copyFrom ∈ gdT := tm2_13 (List.mem_of_getElem? (i := 1) rfl) rfl
abbrev kX5_copyTo : Kd := (yX5_copyTo, cX5_copyTo, 2, none, (1, 20), (0, 0))
theorem mX5_copyTo : MK kX5_copyTo 1 := ⟨tm1_5 (List.mem_of_getElem? (i := 1) rfl) rfl, tm1_0 (List.mem_of_getElem? (i := 2) rfl) rfl, by decide +kernel, by decide +kernel, by decide +kernel⟩
theorem iX5_copyTo : Cond.instanceMethod yX5_copyTo ∈ gdT := tm1_4 (List.mem_of_getElem? (i := 15) rfl) rfl
theorem vX5_copyTo : Cond.selects RX5 yX5_copyTo yX5_copyTo ∈ gdT := tm1_5 (List.mem_of_getElem? (i := 0) rfl) rfl
abbrev kX5_countThere : Kd := (yX5_countThere, cX5_countThere, 4, some .int, (1, 21), (0, 0))
theorem mX5_countThere : MK kX5_countThere 1 := ⟨tm3_9 (List.mem_of_getElem? (i := 12) rfl) rfl, tm1_0 (List.mem_of_getElem? (i := 2) rfl) rfl, by decide +kernel, by decide +kernel, by decide +kernel⟩
theorem iX5_countThere : Cond.instanceMethod yX5_countThere ∈ gdT := tm3_9 (List.mem_of_getElem? (i := 10) rfl) rfl
theorem vX5_countThere : Cond.selects RX5 yX5_countThere yX5_countThere ∈ gdT := tm3_9 (List.mem_of_getElem? (i := 11) rfl) rfl
abbrev kX5_dueCode : Kd := (yX5_dueCode, cX5_dueCode, 4, some .int, (2, 47), (0, 0))
theorem mX5_dueCode : MK kX5_dueCode 1 := ⟨tm3_4 (List.mem_of_getElem? (i := 13) rfl) rfl, tm1_0 (List.mem_of_getElem? (i := 2) rfl) rfl, by decide +kernel, by decide +kernel, by decide +kernel⟩
theorem iX5_dueCode : Cond.instanceMethod yX5_dueCode ∈ gdT := tm3_4 (List.mem_of_getElem? (i := 11) rfl) rfl
theorem vX5_dueCode : Cond.selects RX5 yX5_dueCode yX5_dueCode ∈ gdT := tm3_4 (List.mem_of_getElem? (i := 12) rfl) rfl
abbrev kX5_dueCodeBehind : Kd := (yX5_dueCodeBehind, cX5_dueCodeBehind, 7, some .int, (1, 21), (0, 0))
theorem mX5_dueCodeBehind : MK kX5_dueCodeBehind 1 := ⟨tm2_11 (List.mem_of_getElem? (i := 12) rfl) rfl, tm1_0 (List.mem_of_getElem? (i := 2) rfl) rfl, by decide +kernel, by decide +kernel, by decide +kernel⟩
theorem iX5_dueCodeBehind : Cond.instanceMethod yX5_dueCodeBehind ∈ gdT := tm2_11 (List.mem_of_getElem? (i := 11) rfl) rfl
theorem vX5_dueCodeBehind : Cond.selects RX5 yX5_dueCodeBehind yX5_dueCodeBehind ∈ gdT := tp (i := 13) (by decide +kernel) rfl
abbrev kX5_endHand : Kd := (yX5_endHand, cX5_endHand, 3, none, (1, 20), (0, 0))
theorem mX5_endHand : MK kX5_endHand 1 := ⟨tm2_5 (List.mem_of_getElem? (i := 4) rfl) rfl, tm1_0 (List.mem_of_getElem? (i := 2) rfl) rfl, by decide +kernel, by decide +kernel, by decide +kernel⟩
theorem iX5_endHand : Cond.instanceMethod yX5_endHand ∈ gdT := tm2_5 (List.mem_of_getElem? (i := 3) rfl) rfl
theorem vX5_endHand : Cond.selects RX5 yX5_endHand yX5_endHand ∈ gdT := tp (i := 9) (by decide +kernel) rfl
abbrev kX5_endIn : Kd := (yX5_endIn, cX5_endIn, 2, some .int, (1, 20), (0, 0))
theorem mX5_endIn : MK kX5_endIn 1 := ⟨tm2_8 (List.mem_of_getElem? (i := 0) rfl) rfl, tm1_0 (List.mem_of_getElem? (i := 2) rfl) rfl, by decide +kernel, by decide +kernel, by decide +kernel⟩
theorem iX5_endIn : Cond.instanceMethod yX5_endIn ∈ gdT := tm2_7 (List.mem_of_getElem? (i := 15) rfl) rfl
theorem vX5_endIn : Cond.selects RX5 yX5_endIn yX5_endIn ∈ gdT := tp (i := 12) (by decide +kernel) rfl
abbrev kX5_endOfDue : Kd := (yX5_endOfDue, cX5_endOfDue, 1, some .int, (0, 0), (0, 0))
theorem mX5_endOfDue : MK kX5_endOfDue 1 := ⟨tm2_12 (List.mem_of_getElem? (i := 1) rfl) rfl, tm1_0 (List.mem_of_getElem? (i := 2) rfl) rfl, by decide +kernel, by decide +kernel, by decide +kernel⟩
theorem sX5_endOfDue : Cond.static yX5_endOfDue ∈ gdT := tm2_12 (List.mem_of_getElem? (i := 0) rfl) rfl
abbrev kX5_entryKeys : Kd := (yX5_entryKeys, cX5_entryKeys, 4, some .int, (1, 21), (0, 0))
theorem mX5_entryKeys : MK kX5_entryKeys 1 := ⟨tm2_6 (List.mem_of_getElem? (i := 0) rfl) rfl, tm1_0 (List.mem_of_getElem? (i := 2) rfl) rfl, by decide +kernel, by decide +kernel, by decide +kernel⟩
theorem iX5_entryKeys : Cond.instanceMethod yX5_entryKeys ∈ gdT := tm2_5 (List.mem_of_getElem? (i := 14) rfl) rfl
theorem vX5_entryKeys : Cond.selects RX5 yX5_entryKeys yX5_entryKeys ∈ gdT := tm2_5 (List.mem_of_getElem? (i := 15) rfl) rfl
abbrev kX5_entryPart : Kd := (yX5_entryPart, cX5_entryPart, 4, some .int, (1, 21), (0, 0))
theorem mX5_entryPart : MK kX5_entryPart 3 := ⟨tm2_14 (List.mem_of_getElem? (i := 8) rfl) rfl, tm1_0 (List.mem_of_getElem? (i := 2) rfl) rfl, by decide +kernel, by decide +kernel, by decide +kernel⟩
theorem iX5_entryPart : Cond.instanceMethod yX5_entryPart ∈ gdT := tm2_14 (List.mem_of_getElem? (i := 6) rfl) rfl
theorem vX5_entryPart : Cond.selects RX5 yX5_entryPart yX5_entryPart ∈ gdT := tm2_14 (List.mem_of_getElem? (i := 7) rfl) rfl
abbrev kX5_giveLease : Kd := (yX5_giveLease, cX5_giveLease, 3, some .int, (1, 21), (0, 0))
theorem mX5_giveLease : MK kX5_giveLease 2 := ⟨tm2_1 (List.mem_of_getElem? (i := 6) rfl) rfl, tm1_0 (List.mem_of_getElem? (i := 2) rfl) rfl, by decide +kernel, by decide +kernel, by decide +kernel⟩
theorem iX5_giveLease : Cond.instanceMethod yX5_giveLease ∈ gdT := tm2_1 (List.mem_of_getElem? (i := 5) rfl) rfl
theorem vX5_giveLease : Cond.selects RX5 yX5_giveLease yX5_giveLease ∈ gdT := tp (i := 4) (by decide +kernel) rfl
abbrev kX5_groupOf : Kd := (yX5_groupOf, cX5_groupOf, 2, some .int, (1, 20), (0, 0))
theorem mX5_groupOf : MK kX5_groupOf 1 := ⟨tm1_14 (List.mem_of_getElem? (i := 11) rfl) rfl, tm1_0 (List.mem_of_getElem? (i := 2) rfl) rfl, by decide +kernel, by decide +kernel, by decide +kernel⟩
theorem iX5_groupOf : Cond.instanceMethod yX5_groupOf ∈ gdT := tm1_14 (List.mem_of_getElem? (i := 9) rfl) rfl
theorem vX5_groupOf : Cond.selects RX5 yX5_groupOf yX5_groupOf ∈ gdT := tm1_14 (List.mem_of_getElem? (i := 10) rfl) rfl
abbrev kX5_handAt : Kd := (yX5_handAt, cX5_handAt, 1, some .int, (0, 0), (0, 0))
theorem mX5_handAt : MK kX5_handAt 1 := ⟨tm1_2 (List.mem_of_getElem? (i := 7) rfl) rfl, tm1_0 (List.mem_of_getElem? (i := 2) rfl) rfl, by decide +kernel, by decide +kernel, by decide +kernel⟩
theorem sX5_handAt : Cond.static yX5_handAt ∈ gdT := tm1_2 (List.mem_of_getElem? (i := 6) rfl) rfl
abbrev kX5_hands : Kd := (yX5_hands, cX5_hands, 3, some .int, (1, 20), (0, 0))
theorem mX5_hands : MK kX5_hands 0 := ⟨tm4_12 (List.mem_of_getElem? (i := 6) rfl) rfl, tm1_0 (List.mem_of_getElem? (i := 2) rfl) rfl, by decide +kernel, by decide +kernel, by decide +kernel⟩
theorem iX5_hands : Cond.instanceMethod yX5_hands ∈ gdT := tm4_12 (List.mem_of_getElem? (i := 4) rfl) rfl
theorem vX5_hands : Cond.selects RX5 yX5_hands yX5_hands ∈ gdT := tm4_12 (List.mem_of_getElem? (i := 5) rfl) rfl
abbrev kX5_hasEntry : Kd := (yX5_hasEntry, cX5_hasEntry, 3, some .boolean, (1, 21), (0, 0))
theorem mX5_hasEntry : MK kX5_hasEntry 2 := ⟨tm2_3 (List.mem_of_getElem? (i := 5) rfl) rfl, tm1_0 (List.mem_of_getElem? (i := 2) rfl) rfl, by decide +kernel, by decide +kernel, by decide +kernel⟩
theorem iX5_hasEntry : Cond.instanceMethod yX5_hasEntry ∈ gdT := tm2_3 (List.mem_of_getElem? (i := 3) rfl) rfl
theorem vX5_hasEntry : Cond.selects RX5 yX5_hasEntry yX5_hasEntry ∈ gdT := tm2_3 (List.mem_of_getElem? (i := 4) rfl) rfl
abbrev kX5_hasHandFor : Kd := (yX5_hasHandFor, cX5_hasHandFor, 4, some .boolean, (1, 20), (0, 0))
theorem mX5_hasHandFor : MK kX5_hasHandFor 2 := ⟨tm3_8 (List.mem_of_getElem? (i := 4) rfl) rfl, tm1_0 (List.mem_of_getElem? (i := 2) rfl) rfl, by decide +kernel, by decide +kernel, by decide +kernel⟩
theorem iX5_hasHandFor : Cond.instanceMethod yX5_hasHandFor ∈ gdT := tm3_8 (List.mem_of_getElem? (i := 2) rfl) rfl
theorem vX5_hasHandFor : Cond.selects RX5 yX5_hasHandFor yX5_hasHandFor ∈ gdT := tm3_8 (List.mem_of_getElem? (i := 3) rfl) rfl
abbrev kX5_hotKey : Kd := (yX5_hotKey, cX5_hotKey, 3, some .int, (1, 25), (0, 0))
theorem mX5_hotKey : MK kX5_hotKey 1 := ⟨tm3_5 (List.mem_of_getElem? (i := 12) rfl) rfl, tm1_0 (List.mem_of_getElem? (i := 2) rfl) rfl, by decide +kernel, by decide +kernel, by decide +kernel⟩
theorem iX5_hotKey : Cond.instanceMethod yX5_hotKey ∈ gdT := tm3_5 (List.mem_of_getElem? (i := 10) rfl) rfl
theorem vX5_hotKey : Cond.selects RX5 yX5_hotKey yX5_hotKey ∈ gdT := tm3_5 (List.mem_of_getElem? (i := 11) rfl) rfl
abbrev kX5_hotterThan : Kd := (yX5_hotterThan, cX5_hotterThan, 6, some .int, (0, 0), (0, 0))
theorem mX5_hotterThan : MK kX5_hotterThan 1 := ⟨tm3_6 (List.mem_of_getElem? (i := 0) rfl) rfl, tm1_0 (List.mem_of_getElem? (i := 2) rfl) rfl, by decide +kernel, by decide +kernel, by decide +kernel⟩
theorem iX5_hotterThan : Cond.instanceMethod yX5_hotterThan ∈ gdT := tm3_5 (List.mem_of_getElem? (i := 15) rfl) rfl
theorem vX5_hotterThan : Cond.selects RX5 yX5_hotterThan yX5_hotterThan ∈ gdT := tp (i := 16) (by decide +kernel) rfl
abbrev kX5_init : Kd := (yX5_init, cX5_init, 2, none, (1, 20), (1, 1060))
theorem mX5_init : MK kX5_init 0 := ⟨tm1_1 (List.mem_of_getElem? (i := 14) rfl) rfl, tm1_0 (List.mem_of_getElem? (i := 2) rfl) rfl, by decide +kernel, by decide +kernel, by decide +kernel⟩
theorem iX5_init : Cond.instanceMethod yX5_init ∈ gdT := tm1_1 (List.mem_of_getElem? (i := 13) rfl) rfl
abbrev kX5_install : Kd := (yX5_install, cX5_install, 9, none, (2, 48), (0, 0))
theorem mX5_install : MK kX5_install 5 := ⟨tm2_5 (List.mem_of_getElem? (i := 12) rfl) rfl, tm1_0 (List.mem_of_getElem? (i := 2) rfl) rfl, by decide +kernel, by decide +kernel, by decide +kernel⟩
theorem iX5_install : Cond.instanceMethod yX5_install ∈ gdT := tm2_5 (List.mem_of_getElem? (i := 10) rfl) rfl
theorem vX5_install : Cond.selects RX5 yX5_install yX5_install ∈ gdT := tm2_5 (List.mem_of_getElem? (i := 11) rfl) rfl
abbrev kX5_isAhead : Kd := (yX5_isAhead, cX5_isAhead, 2, some .boolean, (0, 0), (0, 0))
theorem mX5_isAhead : MK kX5_isAhead 1 := ⟨tm2_0 (List.mem_of_getElem? (i := 2) rfl) rfl, tm1_0 (List.mem_of_getElem? (i := 2) rfl) rfl, by decide +kernel, by decide +kernel, by decide +kernel⟩
theorem iX5_isAhead : Cond.instanceMethod yX5_isAhead ∈ gdT := tm2_0 (List.mem_of_getElem? (i := 1) rfl) rfl
theorem vX5_isAhead : Cond.selects RX5 yX5_isAhead yX5_isAhead ∈ gdT := tp (i := 1) (by decide +kernel) rfl
abbrev kX5_isVoid : Kd := (yX5_isVoid, cX5_isVoid, 4, some .boolean, (1, 21), (0, 0))
theorem mX5_isVoid : MK kX5_isVoid 2 := ⟨tm2_5 (List.mem_of_getElem? (i := 8) rfl) rfl, tm1_0 (List.mem_of_getElem? (i := 2) rfl) rfl, by decide +kernel, by decide +kernel, by decide +kernel⟩
theorem iX5_isVoid : Cond.instanceMethod yX5_isVoid ∈ gdT := tm2_5 (List.mem_of_getElem? (i := 7) rfl) rfl
theorem vX5_isVoid : Cond.selects RX5 yX5_isVoid yX5_isVoid ∈ gdT := tp (i := 10) (by decide +kernel) rfl
abbrev kX5_isWarmBeside : Kd := (yX5_isWarmBeside, cX5_isWarmBeside, 2, some .boolean, (0, 0), (0, 0))
theorem mX5_isWarmBeside : MK kX5_isWarmBeside 1 := ⟨tm2_3 (List.mem_of_getElem? (i := 1) rfl) rfl, tm1_0 (List.mem_of_getElem? (i := 2) rfl) rfl, by decide +kernel, by decide +kernel, by decide +kernel⟩
theorem iX5_isWarmBeside : Cond.instanceMethod yX5_isWarmBeside ∈ gdT := tm2_3 (List.mem_of_getElem? (i := 0) rfl) rfl
theorem vX5_isWarmBeside : Cond.selects RX5 yX5_isWarmBeside yX5_isWarmBeside ∈ gdT := tp (i := 7) (by decide +kernel) rfl
abbrev kX5_isWriteBy : Kd := (yX5_isWriteBy, cX5_isWriteBy, 5, some .boolean, (1, 20), (0, 0))
theorem mX5_isWriteBy : MK kX5_isWriteBy 3 := ⟨tm3_4 (List.mem_of_getElem? (i := 5) rfl) rfl, tm1_0 (List.mem_of_getElem? (i := 2) rfl) rfl, by decide +kernel, by decide +kernel, by decide +kernel⟩
theorem iX5_isWriteBy : Cond.instanceMethod yX5_isWriteBy ∈ gdT := tm3_4 (List.mem_of_getElem? (i := 4) rfl) rfl
theorem vX5_isWriteBy : Cond.selects RX5 yX5_isWriteBy yX5_isWriteBy ∈ gdT := tp (i := 15) (by decide +kernel) rfl
abbrev kX5_keepInHand : Kd := (yX5_keepInHand, cX5_keepInHand, 5, some .int, (0, 0), (0, 0))
theorem mX5_keepInHand : MK kX5_keepInHand 4 := ⟨tm2_3 (List.mem_of_getElem? (i := 9) rfl) rfl, tm1_0 (List.mem_of_getElem? (i := 2) rfl) rfl, by decide +kernel, by decide +kernel, by decide +kernel⟩
theorem iX5_keepInHand : Cond.instanceMethod yX5_keepInHand ∈ gdT := tm2_3 (List.mem_of_getElem? (i := 8) rfl) rfl
theorem vX5_keepInHand : Cond.selects RX5 yX5_keepInHand yX5_keepInHand ∈ gdT := tp (i := 8) (by decide +kernel) rfl
abbrev kX5_kindOfDue : Kd := (yX5_kindOfDue, cX5_kindOfDue, 1, some .int, (0, 0), (0, 0))
theorem mX5_kindOfDue : MK kX5_kindOfDue 1 := ⟨tm3_5 (List.mem_of_getElem? (i := 1) rfl) rfl, tm1_0 (List.mem_of_getElem? (i := 2) rfl) rfl, by decide +kernel, by decide +kernel, by decide +kernel⟩
theorem sX5_kindOfDue : Cond.static yX5_kindOfDue ∈ gdT := tm3_5 (List.mem_of_getElem? (i := 0) rfl) rfl
abbrev kX5_lastWriteBy : Kd := (yX5_lastWriteBy, cX5_lastWriteBy, 4, some .int, (2, 44), (0, 0))
theorem mX5_lastWriteBy : MK kX5_lastWriteBy 2 := ⟨tm3_4 (List.mem_of_getElem? (i := 1) rfl) rfl, tm1_0 (List.mem_of_getElem? (i := 2) rfl) rfl, by decide +kernel, by decide +kernel, by decide +kernel⟩
theorem iX5_lastWriteBy : Cond.instanceMethod yX5_lastWriteBy ∈ gdT := tm3_3 (List.mem_of_getElem? (i := 15) rfl) rfl
theorem vX5_lastWriteBy : Cond.selects RX5 yX5_lastWriteBy yX5_lastWriteBy ∈ gdT := tm3_4 (List.mem_of_getElem? (i := 0) rfl) rfl
abbrev kX5_lastWriteUpTo : Kd := (yX5_lastWriteUpTo, cX5_lastWriteUpTo, 4, some .int, (1, 20), (0, 0))
theorem mX5_lastWriteUpTo : MK kX5_lastWriteUpTo 2 := ⟨tm3_2 (List.mem_of_getElem? (i := 3) rfl) rfl, tm1_0 (List.mem_of_getElem? (i := 2) rfl) rfl, by decide +kernel, by decide +kernel, by decide +kernel⟩
theorem iX5_lastWriteUpTo : Cond.instanceMethod yX5_lastWriteUpTo ∈ gdT := tm3_2 (List.mem_of_getElem? (i := 1) rfl) rfl
theorem vX5_lastWriteUpTo : Cond.selects RX5 yX5_lastWriteUpTo yX5_lastWriteUpTo ∈ gdT := tm3_2 (List.mem_of_getElem? (i := 2) rfl) rfl
abbrev kX5_leastKey : Kd := (yX5_leastKey, cX5_leastKey, 8, some .int, (1, 21), (0, 0))
theorem mX5_leastKey : MK kX5_leastKey 2 := ⟨tm2_6 (List.mem_of_getElem? (i := 10) rfl) rfl, tm1_0 (List.mem_of_getElem? (i := 2) rfl) rfl, by decide +kernel, by decide +kernel, by decide +kernel⟩
theorem iX5_leastKey : Cond.instanceMethod yX5_leastKey ∈ gdT := tm2_6 (List.mem_of_getElem? (i := 8) rfl) rfl
theorem vX5_leastKey : Cond.selects RX5 yX5_leastKey yX5_leastKey ∈ gdT := tm2_6 (List.mem_of_getElem? (i := 9) rfl) rfl
abbrev kX5_ledOf : Kd := (yX5_ledOf, cX5_ledOf, 2, some .int, (0, 0), (0, 0))
theorem mX5_ledOf : MK kX5_ledOf 1 := ⟨tm3_6 (List.mem_of_getElem? (i := 8) rfl) rfl, tm1_0 (List.mem_of_getElem? (i := 2) rfl) rfl, by decide +kernel, by decide +kernel, by decide +kernel⟩
theorem iX5_ledOf : Cond.instanceMethod yX5_ledOf ∈ gdT := tm3_6 (List.mem_of_getElem? (i := 6) rfl) rfl
theorem vX5_ledOf : Cond.selects RX5 yX5_ledOf yX5_ledOf ∈ gdT := tm3_6 (List.mem_of_getElem? (i := 7) rfl) rfl
abbrev kX5_loadsOf : Kd := (yX5_loadsOf, cX5_loadsOf, 2, some .int, (0, 0), (0, 0))
theorem mX5_loadsOf : MK kX5_loadsOf 1 := ⟨tm3_1 (List.mem_of_getElem? (i := 11) rfl) rfl, tm1_0 (List.mem_of_getElem? (i := 2) rfl) rfl, by decide +kernel, by decide +kernel, by decide +kernel⟩
theorem iX5_loadsOf : Cond.instanceMethod yX5_loadsOf ∈ gdT := tm3_1 (List.mem_of_getElem? (i := 9) rfl) rfl
theorem vX5_loadsOf : Cond.selects RX5 yX5_loadsOf yX5_loadsOf ∈ gdT := tm3_1 (List.mem_of_getElem? (i := 10) rfl) rfl
abbrev kX5_lookUp : Kd := (yX5_lookUp, cX5_lookUp, 7, some .int, (2, 43), (0, 0))
theorem mX5_lookUp : MK kX5_lookUp 1 := ⟨tm2_2 (List.mem_of_getElem? (i := 13) rfl) rfl, tm1_0 (List.mem_of_getElem? (i := 2) rfl) rfl, by decide +kernel, by decide +kernel, by decide +kernel⟩
theorem iX5_lookUp : Cond.instanceMethod yX5_lookUp ∈ gdT := tm2_2 (List.mem_of_getElem? (i := 11) rfl) rfl
theorem vX5_lookUp : Cond.selects RX5 yX5_lookUp yX5_lookUp ∈ gdT := tm2_2 (List.mem_of_getElem? (i := 12) rfl) rfl
abbrev kX5_markerOf : Kd := (yX5_markerOf, cX5_markerOf, 3, some .int, (0, 0), (0, 0))
theorem mX5_markerOf : MK kX5_markerOf 2 := ⟨tm2_3 (List.mem_of_getElem? (i := 13) rfl) rfl, tm1_0 (List.mem_of_getElem? (i := 2) rfl) rfl, by decide +kernel, by decide +kernel, by decide +kernel⟩
theorem iX5_markerOf : Cond.instanceMethod yX5_markerOf ∈ gdT := tm2_3 (List.mem_of_getElem? (i := 11) rfl) rfl
theorem vX5_markerOf : Cond.selects RX5 yX5_markerOf yX5_markerOf ∈ gdT := tm2_3 (List.mem_of_getElem? (i := 12) rfl) rfl
abbrev kX5_markers : Kd := (yX5_markers, cX5_markers, 3, some .int, (0, 0), (0, 0))
theorem mX5_markers : MK kX5_markers 0 := ⟨tm4_12 (List.mem_of_getElem? (i := 2) rfl) rfl, tm1_0 (List.mem_of_getElem? (i := 2) rfl) rfl, by decide +kernel, by decide +kernel, by decide +kernel⟩
theorem iX5_markers : Cond.instanceMethod yX5_markers ∈ gdT := tm4_12 (List.mem_of_getElem? (i := 0) rfl) rfl
theorem vX5_markers : Cond.selects RX5 yX5_markers yX5_markers ∈ gdT := tm4_12 (List.mem_of_getElem? (i := 1) rfl) rfl
abbrev kX5_move : Kd := (yX5_move, cX5_move, 4, some .int, (2, 42), (0, 0))
theorem mX5_move : MK kX5_move 2 := ⟨tm2_10 (List.mem_of_getElem? (i := 4) rfl) rfl, tm1_0 (List.mem_of_getElem? (i := 2) rfl) rfl, by decide +kernel, by decide +kernel, by decide +kernel⟩
theorem iX5_move : Cond.instanceMethod yX5_move ∈ gdT := tm2_10 (List.mem_of_getElem? (i := 2) rfl) rfl
theorem vX5_move : Cond.selects RX5 yX5_move yX5_move ∈ gdT := tm2_10 (List.mem_of_getElem? (i := 3) rfl) rfl
abbrev kX5_now : Kd := (yX5_now, cX5_now, 1, some .int, (0, 0), (0, 0))
theorem mX5_now : MK kX5_now 0 := ⟨tm2_0 (List.mem_of_getElem? (i := 10) rfl) rfl, tm1_0 (List.mem_of_getElem? (i := 2) rfl) rfl, by decide +kernel, by decide +kernel, by decide +kernel⟩
theorem iX5_now : Cond.instanceMethod yX5_now ∈ gdT := tm2_0 (List.mem_of_getElem? (i := 8) rfl) rfl
theorem vX5_now : Cond.selects RX5 yX5_now yX5_now ∈ gdT := tm2_0 (List.mem_of_getElem? (i := 9) rfl) rfl
abbrev kX5_obtain : Kd := (yX5_obtain, cX5_obtain, 6, some .int, (2, 44), (0, 0))
theorem mX5_obtain : MK kX5_obtain 2 := ⟨tm1_14 (List.mem_of_getElem? (i := 7) rfl) rfl, tm1_0 (List.mem_of_getElem? (i := 2) rfl) rfl, by decide +kernel, by decide +kernel, by decide +kernel⟩
theorem iX5_obtain : Cond.instanceMethod yX5_obtain ∈ gdT := tm1_14 (List.mem_of_getElem? (i := 5) rfl) rfl
theorem vX5_obtain : Cond.selects RX5 yX5_obtain yX5_obtain ∈ gdT := tm1_14 (List.mem_of_getElem? (i := 6) rfl) rfl
abbrev kX5_outdatedGroups : Kd := (yX5_outdatedGroups, cX5_outdatedGroups, 3, some .int, (2, 46), (0, 0))
theorem mX5_outdatedGroups : MK kX5_outdatedGroups 0 := ⟨tm3_10 (List.mem_of_getElem? (i := 0) rfl) rfl, tm1_0 (List.mem_of_getElem? (i := 2) rfl) rfl, by decide +kernel, by decide +kernel, by decide +kernel⟩
theorem iX5_outdatedGroups : Cond.instanceMethod yX5_outdatedGroups ∈ gdT := tm3_9 (List.mem_of_getElem? (i := 14) rfl) rfl
theorem vX5_outdatedGroups : Cond.selects RX5 yX5_outdatedGroups yX5_outdatedGroups ∈ gdT := tm3_9 (List.mem_of_getElem? (i := 15) rfl) rfl
abbrev kX5_outdatedKeys : Kd := (yX5_outdatedKeys, cX5_outdatedKeys, 6, some .int, (1, 21), (0, 0))
theorem mX5_outdatedKeys : MK kX5_outdatedKeys 1 := ⟨tm3_3 (List.mem_of_getElem? (i := 0) rfl) rfl, tm1_0 (List.mem_of_getElem? (i := 2) rfl) rfl, by decide +kernel, by decide +kernel, by decide +kernel⟩
theorem iX5_outdatedKeys : Cond.instanceMethod yX5_outdatedKeys ∈ gdT := tm3_2 (List.mem_of_getElem? (i := 14) rfl) rfl
theorem vX5_outdatedKeys : Cond.selects RX5 yX5_outdatedKeys yX5_outdatedKeys ∈ gdT := tm3_2 (List.mem_of_getElem? (i := 15) rfl) rfl
abbrev kX5_pass : Kd := (yX5_pass, cX5_pass, 2, some .int, (1, 20), (0, 0))
theorem mX5_pass : MK kX5_pass 1 := ⟨tm2_9 (List.mem_of_getElem? (i := 4) rfl) rfl, tm1_0 (List.mem_of_getElem? (i := 2) rfl) rfl, by decide +kernel, by decide +kernel, by decide +kernel⟩
theorem iX5_pass : Cond.instanceMethod yX5_pass ∈ gdT := tm2_9 (List.mem_of_getElem? (i := 2) rfl) rfl
theorem vX5_pass : Cond.selects RX5 yX5_pass yX5_pass ∈ gdT := tm2_9 (List.mem_of_getElem? (i := 3) rfl) rfl
abbrev kX5_passToFirstDue : Kd := (yX5_passToFirstDue, cX5_passToFirstDue, 2, some .int, (2, 47), (0, 0))
theorem mX5_passToFirstDue : MK kX5_passToFirstDue 0 := ⟨tm2_11 (List.mem_of_getElem? (i := 8) rfl) rfl, tm1_0 (List.mem_of_getElem? (i := 2) rfl) rfl, by decide +kernel, by decide +kernel, by decide +kernel⟩
theorem iX5_passToFirstDue : Cond.instanceMethod yX5_passToFirstDue ∈ gdT := tm2_11 (List.mem_of_getElem? (i := 6) rfl) rfl
theorem vX5_passToFirstDue : Cond.selects RX5 yX5_passToFirstDue yX5_passToFirstDue ∈ gdT := tm2_11 (List.mem_of_getElem? (i := 7) rfl) rfl
abbrev kX5_placeOf : Kd := (yX5_placeOf, cX5_placeOf, 2, some .int, (0, 0), (0, 0))
theorem mX5_placeOf : MK kX5_placeOf 1 := ⟨tm2_8 (List.mem_of_getElem? (i := 12) rfl) rfl, tm1_0 (List.mem_of_getElem? (i := 2) rfl) rfl, by decide +kernel, by decide +kernel, by decide +kernel⟩
theorem iX5_placeOf : Cond.instanceMethod yX5_placeOf ∈ gdT := tm2_8 (List.mem_of_getElem? (i := 10) rfl) rfl
theorem vX5_placeOf : Cond.selects RX5 yX5_placeOf yX5_placeOf ∈ gdT := tm2_8 (List.mem_of_getElem? (i := 11) rfl) rfl
abbrev kX5_settingOf : Kd := (yX5_settingOf, cX5_settingOf, 2, some .int, (0, 0), (0, 0))
theorem mX5_settingOf : MK kX5_settingOf 1 := ⟨tm2_0 (List.mem_of_getElem? (i := 14) rfl) rfl, tm1_0 (List.mem_of_getElem? (i := 2) rfl) rfl, by decide +kernel, by decide +kernel, by decide +kernel⟩
theorem iX5_settingOf : Cond.instanceMethod yX5_settingOf ∈ gdT := tm2_0 (List.mem_of_getElem? (i := 12) rfl) rfl
theorem vX5_settingOf : Cond.selects RX5 yX5_settingOf yX5_settingOf ∈ gdT := tm2_0 (List.mem_of_getElem? (i := 13) rfl) rfl
abbrev kX5_spotAt : Kd := (yX5_spotAt, cX5_spotAt, 2, some .int, (0, 0), (0, 0))
theorem mX5_spotAt : MK kX5_spotAt 2 := ⟨tm1_14 (List.mem_of_getElem? (i := 14) rfl) rfl, tm1_0 (List.mem_of_getElem? (i := 2) rfl) rfl, by decide +kernel, by decide +kernel, by decide +kernel⟩
theorem sX5_spotAt : Cond.static yX5_spotAt ∈ gdT := tm1_14 (List.mem_of_getElem? (i := 13) rfl) rfl
abbrev kX5_spotOfDue : Kd := (yX5_spotOfDue, cX5_spotOfDue, 2, some .int, (0, 0), (0, 0))
theorem mX5_spotOfDue : MK kX5_spotOfDue 1 := ⟨tm3_5 (List.mem_of_getElem? (i := 4) rfl) rfl, tm1_0 (List.mem_of_getElem? (i := 2) rfl) rfl, by decide +kernel, by decide +kernel, by decide +kernel⟩
theorem sX5_spotOfDue : Cond.static yX5_spotOfDue ∈ gdT := tm3_5 (List.mem_of_getElem? (i := 3) rfl) rfl
abbrev kX5_storeVersion : Kd := (yX5_storeVersion, cX5_storeVersion, 3, some .int, (0, 0), (0, 0))
theorem mX5_storeVersion : MK kX5_storeVersion 2 := ⟨tm2_4 (List.mem_of_getElem? (i := 1) rfl) rfl, tm1_0 (List.mem_of_getElem? (i := 2) rfl) rfl, by decide +kernel, by decide +kernel, by decide +kernel⟩
theorem iX5_storeVersion : Cond.instanceMethod yX5_storeVersion ∈ gdT := tm2_3 (List.mem_of_getElem? (i := 15) rfl) rfl
theorem vX5_storeVersion : Cond.selects RX5 yX5_storeVersion yX5_storeVersion ∈ gdT := tm2_4 (List.mem_of_getElem? (i := 0) rfl) rfl
abbrev kX5_strike : Kd := (yX5_strike, cX5_strike, 4, none, (2, 41), (0, 0))
theorem mX5_strike : MK kX5_strike 2 := ⟨tm2_7 (List.mem_of_getElem? (i := 12) rfl) rfl, tm1_0 (List.mem_of_getElem? (i := 2) rfl) rfl, by decide +kernel, by decide +kernel, by decide +kernel⟩
theorem iX5_strike : Cond.instanceMethod yX5_strike ∈ gdT := tm2_7 (List.mem_of_getElem? (i := 11) rfl) rfl
theorem vX5_strike : Cond.selects RX5 yX5_strike yX5_strike ∈ gdT := tp (i := 11) (by decide +kernel) rfl
abbrev kX5_takeHand : Kd := (yX5_takeHand, cX5_takeHand, 5, none, (1, 20), (0, 0))
theorem mX5_takeHand : MK kX5_takeHand 3 := ⟨tm2_1 (List.mem_of_getElem? (i := 10) rfl) rfl, tm1_0 (List.mem_of_getElem? (i := 2) rfl) rfl, by decide +kernel, by decide +kernel, by decide +kernel⟩
theorem iX5_takeHand : Cond.instanceMethod yX5_takeHand ∈ gdT := tm2_1 (List.mem_of_getElem? (i := 9) rfl) rfl
theorem vX5_takeHand : Cond.selects RX5 yX5_takeHand yX5_takeHand ∈ gdT := tp (i := 5) (by decide +kernel) rfl
abbrev kX5_tryKey : Kd := (yX5_tryKey, cX5_tryKey, 5, some .boolean, (3, 76), (0, 0))
theorem mX5_tryKey : MK kX5_tryKey 3 := ⟨tm3_11 (List.mem_of_getElem? (i := 2) rfl) rfl, tm1_0 (List.mem_of_getElem? (i := 2) rfl) rfl, by decide +kernel, by decide +kernel, by decide +kernel⟩
theorem iX5_tryKey : Cond.instanceMethod yX5_tryKey ∈ gdT := tm3_11 (List.mem_of_getElem? (i := 0) rfl) rfl
theorem vX5_tryKey : Cond.selects RX5 yX5_tryKey yX5_tryKey ∈ gdT := tm3_11 (List.mem_of_getElem? (i := 1) rfl) rfl
abbrev kX5_turn : Kd := (yX5_turn, cX5_turn, 6, some .int, (1, 21), (0, 0))
theorem mX5_turn : MK kX5_turn 2 := ⟨tm2_9 (List.mem_of_getElem? (i := 12) rfl) rfl, tm1_0 (List.mem_of_getElem? (i := 2) rfl) rfl, by decide +kernel, by decide +kernel, by decide +kernel⟩
theorem iX5_turn : Cond.instanceMethod yX5_turn ∈ gdT := tm2_9 (List.mem_of_getElem? (i := 10) rfl) rfl
theorem vX5_turn : Cond.selects RX5 yX5_turn yX5_turn ∈ gdT := tm2_9 (List.mem_of_getElem? (i := 11) rfl) rfl
abbrev kX5_useEntry : Kd := (yX5_useEntry, cX5_useEntry, 2, none, (1, 20), (0, 0))
theorem mX5_useEntry : MK kX5_useEntry 1 := ⟨tm2_0 (List.mem_of_getElem? (i := 6) rfl) rfl, tm1_0 (List.mem_of_getElem? (i := 2) rfl) rfl, by decide +kernel, by decide +kernel, by decide +kernel⟩
theorem iX5_useEntry : Cond.instanceMethod yX5_useEntry ∈ gdT := tm2_0 (List.mem_of_getElem? (i := 5) rfl) rfl
theorem vX5_useEntry : Cond.selects RX5 yX5_useEntry yX5_useEntry ∈ gdT := tp (i := 2) (by decide +kernel) rfl
abbrev kX5_valueOf : Kd := (yX5_valueOf, cX5_valueOf, 2, some .int, (1, 20), (0, 0))
theorem mX5_valueOf : MK kX5_valueOf 1 := ⟨tm2_4 (List.mem_of_getElem? (i := 5) rfl) rfl, tm1_0 (List.mem_of_getElem? (i := 2) rfl) rfl, by decide +kernel, by decide +kernel, by decide +kernel⟩
theorem iX5_valueOf : Cond.instanceMethod yX5_valueOf ∈ gdT := tm2_4 (List.mem_of_getElem? (i := 3) rfl) rfl
theorem vX5_valueOf : Cond.selects RX5 yX5_valueOf yX5_valueOf ∈ gdT := tm2_4 (List.mem_of_getElem? (i := 4) rfl) rfl
abbrev kX5_wasWritten : Kd := (yX5_wasWritten, cX5_wasWritten, 5, some .boolean, (1, 20), (0, 0))
theorem mX5_wasWritten : MK kX5_wasWritten 3 := ⟨tm4_10 (List.mem_of_getElem? (i := 15) rfl) rfl, tm1_0 (List.mem_of_getElem? (i := 2) rfl) rfl, by decide +kernel, by decide +kernel, by decide +kernel⟩
theorem iX5_wasWritten : Cond.instanceMethod yX5_wasWritten ∈ gdT := tm4_10 (List.mem_of_getElem? (i := 13) rfl) rfl
theorem vX5_wasWritten : Cond.selects RX5 yX5_wasWritten yX5_wasWritten ∈ gdT := tm4_10 (List.mem_of_getElem? (i := 14) rfl) rfl
abbrev kX5_writeAt : Kd := (yX5_writeAt, cX5_writeAt, 1, some .int, (0, 0), (0, 0))
theorem mX5_writeAt : MK kX5_writeAt 1 := ⟨tm2_4 (List.mem_of_getElem? (i := 8) rfl) rfl, tm1_0 (List.mem_of_getElem? (i := 2) rfl) rfl, by decide +kernel, by decide +kernel, by decide +kernel⟩
theorem sX5_writeAt : Cond.static yX5_writeAt ∈ gdT := tm2_4 (List.mem_of_getElem? (i := 7) rfl) rfl
abbrev kX5_writeDown : Kd := (yX5_writeDown, cX5_writeDown, 7, some .int, (3, 64), (0, 0))
theorem mX5_writeDown : MK kX5_writeDown 3 := ⟨tm2_7 (List.mem_of_getElem? (i := 4) rfl) rfl, tm1_0 (List.mem_of_getElem? (i := 2) rfl) rfl, by decide +kernel, by decide +kernel, by decide +kernel⟩
theorem iX5_writeDown : Cond.instanceMethod yX5_writeDown ∈ gdT := tm2_7 (List.mem_of_getElem? (i := 2) rfl) rfl
theorem vX5_writeDown : Cond.selects RX5 yX5_writeDown yX5_writeDown ∈ gdT := tm2_7 (List.mem_of_getElem? (i := 3) rfl) rfl
abbrev kX5_writes : Kd := (yX5_writes, cX5_writes, 1, some .int, (0, 0), (0, 0))
theorem mX5_writes : MK kX5_writes 0 := ⟨tm2_7 (List.mem_of_getElem? (i := 8) rfl) rfl, tm1_0 (List.mem_of_getElem? (i := 2) rfl) rfl, by decide +kernel, by decide +kernel, by decide +kernel⟩
theorem iX5_writes : Cond.instanceMethod yX5_writes ∈ gdT := tm2_7 (List.mem_of_getElem? (i := 6) rfl) rfl
theorem vX5_writes : Cond.selects RX5 yX5_writes yX5_writes ∈ gdT := tm2_7 (List.mem_of_getElem? (i := 7) rfl) rfl
abbrev kX5_writesBehind : Kd := (yX5_writesBehind, cX5_writesBehind, 5, some .int, (1, 20), (0, 0))
theorem mX5_writesBehind : MK kX5_writesBehind 2 := ⟨tm3_3 (List.mem_of_getElem? (i := 8) rfl) rfl, tm1_0 (List.mem_of_getElem? (i := 2) rfl) rfl, by decide +kernel, by decide +kernel, by decide +kernel⟩
theorem iX5_writesBehind : Cond.instanceMethod yX5_writesBehind ∈ gdT := tm3_3 (List.mem_of_getElem? (i := 6) rfl) rfl
theorem vX5_writesBehind : Cond.selects RX5 yX5_writesBehind yX5_writesBehind ∈ gdT := tm3_3 (List.mem_of_getElem? (i := 7) rfl) rfl
abbrev kX6_actsOf : Kd := (yX6_actsOf, cX6_actsOf, 4, some .int, (0, 0), (0, 0))
theorem mX6_actsOf : MK kX6_actsOf 1 := ⟨tm4_4 (List.mem_of_getElem? (i := 2) rfl) rfl, tm1_0 (List.mem_of_getElem? (i := 1) rfl) rfl, by decide +kernel, by decide +kernel, by decide +kernel⟩
theorem iX6_actsOf : Cond.instanceMethod yX6_actsOf ∈ gdT := tm4_4 (List.mem_of_getElem? (i := 1) rfl) rfl
theorem vX6_actsOf : Cond.selects RX6 yX6_actsOf yX6_actsOf ∈ gdT := tp (i := 28) (by decide +kernel) rfl
abbrev kX6_apply : Kd := (yX6_apply, cX6_apply, 2, some .int, (5, 104), (1, 1060))
theorem mX6_apply : MK kX6_apply 1 := ⟨tm2_8 (List.mem_of_getElem? (i := 4) rfl) rfl, tm1_0 (List.mem_of_getElem? (i := 1) rfl) rfl, by decide +kernel, by decide +kernel, by decide +kernel⟩
theorem iX6_apply : Cond.instanceMethod yX6_apply ∈ gdT := tm2_8 (List.mem_of_getElem? (i := 2) rfl) rfl
theorem vX6_apply : Cond.selects RX6 yX6_apply yX6_apply ∈ gdT := tm2_8 (List.mem_of_getElem? (i := 3) rfl) rfl
abbrev kX6_arePlanners : Kd := (yX6_arePlanners, cX6_arePlanners, 3, some .boolean, (1, 20), (0, 0))
theorem mX6_arePlanners : MK kX6_arePlanners 1 := ⟨tm4_3 (List.mem_of_getElem? (i := 14) rfl) rfl, tm1_0 (List.mem_of_getElem? (i := 1) rfl) rfl, by decide +kernel, by decide +kernel, by decide +kernel⟩
theorem iX6_arePlanners : Cond.instanceMethod yX6_arePlanners ∈ gdT := tm4_3 (List.mem_of_getElem? (i := 13) rfl) rfl
theorem vX6_arePlanners : Cond.selects RX6 yX6_arePlanners yX6_arePlanners ∈ gdT := tp (i := 27) (by decide +kernel) rfl
abbrev kX6_back : Kd := (yX6_back, cX6_back, 1, some .int, (4, 83), (1, 1060))
theorem mX6_back : MK kX6_back 0 := ⟨tm4_11 (List.mem_of_getElem? (i := 10) rfl) rfl, tm1_0 (List.mem_of_getElem? (i := 1) rfl) rfl, by decide +kernel, by decide +kernel, by decide +kernel⟩
theorem iX6_back : Cond.instanceMethod yX6_back ∈ gdT := tm4_11 (List.mem_of_getElem? (i := 8) rfl) rfl
theorem vX6_back : Cond.selects RX6 yX6_back yX6_back ∈ gdT := tm4_11 (List.mem_of_getElem? (i := 9) rfl) rfl
abbrev kX6_below : Kd := (yX6_below, cX6_below, 2, some .boolean, (0, 0), (0, 0))
theorem mX6_below : MK kX6_below 2 := ⟨tm1_14 (List.mem_of_getElem? (i := 3) rfl) rfl, tm1_0 (List.mem_of_getElem? (i := 1) rfl) rfl, by decide +kernel, by decide +kernel, by decide +kernel⟩
theorem sX6_below : Cond.static yX6_below ∈ gdT := tm1_14 (List.mem_of_getElem? (i := 2) rfl) rfl
abbrev kX6_beside : Kd := (yX6_beside, cX6_beside, 4, some .int, (2, 45), (0, 0))
theorem mX6_beside : MK kX6_beside 3 := ⟨tm2_14 (List.mem_of_getElem? (i := 12) rfl) rfl, tm1_0 (List.mem_of_getElem? (i := 1) rfl) rfl, by decide +kernel, by decide +kernel, by decide +kernel⟩
theorem iX6_beside : Cond.instanceMethod yX6_beside ∈ gdT := tm2_14 (List.mem_of_getElem? (i := 10) rfl) rfl
theorem vX6_beside : Cond.selects RX6 yX6_beside yX6_beside ∈ gdT := tm2_14 (List.mem_of_getElem? (i := 11) rfl) rfl
abbrev kX6_best : Kd := (yX6_best, cX6_best, 7, some .int, (5, 126), (0, 0))
theorem mX6_best : MK kX6_best 2 := ⟨tm3_11 (List.mem_of_getElem? (i := 6) rfl) rfl, tm1_0 (List.mem_of_getElem? (i := 1) rfl) rfl, by decide +kernel, by decide +kernel, by decide +kernel⟩
theorem iX6_best : Cond.instanceMethod yX6_best ∈ gdT := tm3_11 (List.mem_of_getElem? (i := 4) rfl) rfl
theorem vX6_best : Cond.selects RX6 yX6_best yX6_best ∈ gdT := tm3_11 (List.mem_of_getElem? (i := 5) rfl) rfl
abbrev kX6_client : Kd := (yX6_client, cX6_client, 3, some .int, (2, 45), (0, 0))
theorem mX6_client : MK kX6_client 2 := ⟨tm3_0 (List.mem_of_getElem? (i := 6) rfl) rfl, tm1_0 (List.mem_of_getElem? (i := 1) rfl) rfl, by decide +kernel, by decide +kernel, by decide +kernel⟩
theorem iX6_client : Cond.instanceMethod yX6_client ∈ gdT := tm3_0 (List.mem_of_getElem? (i := 4) rfl) rfl
theorem vX6_client : Cond.selects RX6 yX6_client yX6_client ∈ gdT := tm3_0 (List.mem_of_getElem? (i := 5) rfl) rfl
abbrev kX6_cold : Kd := (yX6_cold, cX6_cold, 3, some .int, (5, 104), (1, 1060))
theorem mX6_cold : MK kX6_cold 2 := ⟨tm2_9 (List.mem_of_getElem? (i := 8) rfl) rfl, tm1_0 (List.mem_of_getElem? (i := 1) rfl) rfl, by decide +kernel, by decide +kernel, by decide +kernel⟩
theorem iX6_cold : Cond.instanceMethod yX6_cold ∈ gdT := tm2_9 (List.mem_of_getElem? (i := 6) rfl) rfl
theorem vX6_cold : Cond.selects RX6 yX6_cold yX6_cold ∈ gdT := tm2_9 (List.mem_of_getElem? (i := 7) rfl) rfl
abbrev kX6_count : Kd := (yX6_count, cX6_count, 2, some .int, (2, 44), (0, 0))
theorem mX6_count : MK kX6_count 1 := ⟨tm4_11 (List.mem_of_getElem? (i := 14) rfl) rfl, tm1_0 (List.mem_of_getElem? (i := 1) rfl) rfl, by decide +kernel, by decide +kernel, by decide +kernel⟩
theorem iX6_count : Cond.instanceMethod yX6_count ∈ gdT := tm4_11 (List.mem_of_getElem? (i := 12) rfl) rfl
theorem vX6_count : Cond.selects RX6 yX6_count yX6_count ∈ gdT := tm4_11 (List.mem_of_getElem? (i := 13) rfl) rfl
abbrev kX6_due : Kd := (yX6_due, cX6_due, 4, some .int, (3, 70), (0, 0))
theorem mX6_due : MK kX6_due 2 := ⟨tm3_4 (List.mem_of_getElem? (i := 9) rfl) rfl, tm1_0 (List.mem_of_getElem? (i := 1) rfl) rfl, by decide +kernel, by decide +kernel, by decide +kernel⟩
theorem iX6_due : Cond.instanceMethod yX6_due ∈ gdT := tm3_4 (List.mem_of_getElem? (i := 7) rfl) rfl
theorem vX6_due : Cond.selects RX6 yX6_due yX6_due ∈ gdT := tm3_4 (List.mem_of_getElem? (i := 8) rfl) rfl
abbrev kX6_element : Kd := (yX6_element, cX6_element, 3, some .long, (2, 43), (0, 0))
theorem mX6_element : MK kX6_element 2 := ⟨tm4_9 (List.mem_of_getElem? (i := 8) rfl) rfl, tm1_0 (List.mem_of_getElem? (i := 1) rfl) rfl, by decide +kernel, by decide +kernel, by decide +kernel⟩
theorem iX6_element : Cond.instanceMethod yX6_element ∈ gdT := tm4_9 (List.mem_of_getElem? (i := 6) rfl) rfl
theorem vX6_element : Cond.selects RX6 yX6_element yX6_element ∈ gdT := tm4_9 (List.mem_of_getElem? (i := 7) rfl) rfl
abbrev kX6_entry : Kd := (yX6_entry, cX6_entry, 4, some .int, (2, 44), (0, 0))
theorem mX6_entry : MK kX6_entry 3 := ⟨tm2_14 (List.mem_of_getElem? (i := 3) rfl) rfl, tm1_0 (List.mem_of_getElem? (i := 1) rfl) rfl, by decide +kernel, by decide +kernel, by decide +kernel⟩
theorem iX6_entry : Cond.instanceMethod yX6_entry ∈ gdT := tm2_14 (List.mem_of_getElem? (i := 1) rfl) rfl
theorem vX6_entry : Cond.selects RX6 yX6_entry yX6_entry ∈ gdT := tm2_14 (List.mem_of_getElem? (i := 2) rfl) rfl
abbrev kX6_feed : Kd := (yX6_feed, cX6_feed, 2, some .int, (1, 21), (0, 0))
theorem mX6_feed : MK kX6_feed 1 := ⟨tm3_12 (List.mem_of_getElem? (i := 7) rfl) rfl, tm1_0 (List.mem_of_getElem? (i := 1) rfl) rfl, by decide +kernel, by decide +kernel, by decide +kernel⟩
theorem iX6_feed : Cond.instanceMethod yX6_feed ∈ gdT := tm3_12 (List.mem_of_getElem? (i := 5) rfl) rfl
theorem vX6_feed : Cond.selects RX6 yX6_feed yX6_feed ∈ gdT := tm3_12 (List.mem_of_getElem? (i := 6) rfl) rfl
abbrev kX6_fill : Kd := (yX6_fill, cX6_fill, 2, some .int, (5, 104), (1, 1060))
theorem mX6_fill : MK kX6_fill 1 := ⟨tm2_4 (List.mem_of_getElem? (i := 12) rfl) rfl, tm1_0 (List.mem_of_getElem? (i := 1) rfl) rfl, by decide +kernel, by decide +kernel, by decide +kernel⟩
theorem iX6_fill : Cond.instanceMethod yX6_fill ∈ gdT := tm2_4 (List.mem_of_getElem? (i := 10) rfl) rfl
theorem vX6_fill : Cond.selects RX6 yX6_fill yX6_fill ∈ gdT := tm2_4 (List.mem_of_getElem? (i := 11) rfl) rfl
abbrev kX6_foreseen : Kd := (yX6_foreseen, cX6_foreseen, 3, some .int, (3, 74), (0, 0))
theorem mX6_foreseen : MK kX6_foreseen 2 := ⟨tm3_11 (List.mem_of_getElem? (i := 10) rfl) rfl, tm1_0 (List.mem_of_getElem? (i := 1) rfl) rfl, by decide +kernel, by decide +kernel, by decide +kernel⟩
theorem iX6_foreseen : Cond.instanceMethod yX6_foreseen ∈ gdT := tm3_11 (List.mem_of_getElem? (i := 8) rfl) rfl
theorem vX6_foreseen : Cond.selects RX6 yX6_foreseen yX6_foreseen ∈ gdT := tm3_11 (List.mem_of_getElem? (i := 9) rfl) rfl
abbrev kX6_get : Kd := (yX6_get, cX6_get, 3, some .int, (5, 104), (1, 1060))
theorem mX6_get : MK kX6_get 2 := ⟨tm1_14 (List.mem_of_getElem? (i := 0) rfl) rfl, tm1_0 (List.mem_of_getElem? (i := 1) rfl) rfl, by decide +kernel, by decide +kernel, by decide +kernel⟩
theorem iX6_get : Cond.instanceMethod yX6_get ∈ gdT := tm1_13 (List.mem_of_getElem? (i := 14) rfl) rfl
theorem vX6_get : Cond.selects RX6 yX6_get yX6_get ∈ gdT := tm1_13 (List.mem_of_getElem? (i := 15) rfl) rfl
abbrev kX6_go : Kd := (yX6_go, cX6_go, 3, some .int, (5, 104), (1, 1060))
theorem mX6_go : MK kX6_go 2 := ⟨tm2_10 (List.mem_of_getElem? (i := 0) rfl) rfl, tm1_0 (List.mem_of_getElem? (i := 1) rfl) rfl, by decide +kernel, by decide +kernel, by decide +kernel⟩
theorem iX6_go : Cond.instanceMethod yX6_go ∈ gdT := tm2_9 (List.mem_of_getElem? (i := 14) rfl) rfl
theorem vX6_go : Cond.selects RX6 yX6_go yX6_go ∈ gdT := tm2_9 (List.mem_of_getElem? (i := 15) rfl) rfl
abbrev kX6_hitsForeseen : Kd := (yX6_hitsForeseen, cX6_hitsForeseen, 10, some .int, (2, 45), (0, 0))
theorem mX6_hitsForeseen : MK kX6_hitsForeseen 3 := ⟨tm3_11 (List.mem_of_getElem? (i := 14) rfl) rfl, tm1_0 (List.mem_of_getElem? (i := 1) rfl) rfl, by decide +kernel, by decide +kernel, by decide +kernel⟩
theorem iX6_hitsForeseen : Cond.instanceMethod yX6_hitsForeseen ∈ gdT := tm3_11 (List.mem_of_getElem? (i := 13) rfl) rfl
theorem vX6_hitsForeseen : Cond.selects RX6 yX6_hitsForeseen yX6_hitsForeseen ∈ gdT := tp (i := 22) (by decide +kernel) rfl
abbrev kX6_hitsTried : Kd := (yX6_hitsTried, cX6_hitsTried, 7, some .int, (4, 100), (0, 0))
theorem mX6_hitsTried : MK kX6_hitsTried 3 := ⟨tm3_10 (List.mem_of_getElem? (i := 9) rfl) rfl, tm1_0 (List.mem_of_getElem? (i := 1) rfl) rfl, by decide +kernel, by decide +kernel, by decide +kernel⟩
theorem iX6_hitsTried : Cond.instanceMethod yX6_hitsTried ∈ gdT := tm3_10 (List.mem_of_getElem? (i := 8) rfl) rfl
theorem vX6_hitsTried : Cond.selects RX6 yX6_hitsTried yX6_hitsTried ∈ gdT := tp (i := 20) (by decide +kernel) rfl
abbrev kX6_hottest : Kd := (yX6_hottest, cX6_hottest, 2, some .int, (2, 47), (0, 0))
theorem mX6_hottest : MK kX6_hottest 1 := ⟨tm3_5 (List.mem_of_getElem? (i := 8) rfl) rfl, tm1_0 (List.mem_of_getElem? (i := 1) rfl) rfl, by decide +kernel, by decide +kernel, by decide +kernel⟩
theorem iX6_hottest : Cond.instanceMethod yX6_hottest ∈ gdT := tm3_5 (List.mem_of_getElem? (i := 6) rfl) rfl
theorem vX6_hottest : Cond.selects RX6 yX6_hottest yX6_hottest ∈ gdT := tm3_5 (List.mem_of_getElem? (i := 7) rfl) rfl
abbrev kX6_image : Kd := (yX6_image, cX6_image, 1, some .int, (2, 41), (1, 1060))
theorem mX6_image : MK kX6_image 0 := ⟨tm4_11 (List.mem_of_getElem? (i := 4) rfl) rfl, tm1_0 (List.mem_of_getElem? (i := 1) rfl) rfl, by decide +kernel, by decide +kernel, by decide +kernel⟩
theorem iX6_image : Cond.instanceMethod yX6_image ∈ gdT := tm4_11 (List.mem_of_getElem? (i := 2) rfl) rfl
theorem vX6_image : Cond.selects RX6 yX6_image yX6_image ∈ gdT := tm4_11 (List.mem_of_getElem? (i := 3) rfl) rfl
abbrev kX6_init : Kd := (yX6_init, cX6_init, 2, none, (4, 83), (60, 4000))
theorem mX6_init : MK kX6_init 0 := ⟨tm1_1 (List.mem_of_getElem? (i := 6) rfl) rfl, tm1_0 (List.mem_of_getElem? (i := 1) rfl) rfl, by decide +kernel, by decide +kernel, by decide +kernel⟩
theorem iX6_init : Cond.instanceMethod yX6_init ∈ gdT := tm1_1 (List.mem_of_getElem? (i := 5) rfl) rfl
abbrev kX6_keysAhead : Kd := (yX6_keysAhead, cX6_keysAhead, 3, some .int, (0, 0), (0, 0))
theorem mX6_keysAhead : MK kX6_keysAhead 1 := ⟨tm3_10 (List.mem_of_getElem? (i := 13) rfl) rfl, tm1_0 (List.mem_of_getElem? (i := 1) rfl) rfl, by decide +kernel, by decide +kernel, by decide +kernel⟩
theorem iX6_keysAhead : Cond.instanceMethod yX6_keysAhead ∈ gdT := tm3_10 (List.mem_of_getElem? (i := 12) rfl) rfl
theorem vX6_keysAhead : Cond.selects RX6 yX6_keysAhead yX6_keysAhead ∈ gdT := tp (i := 21) (by decide +kernel) rfl
abbrev kX6_lag : Kd := (yX6_lag, cX6_lag, 3, some .int, (2, 44), (0, 0))
theorem mX6_lag : MK kX6_lag 2 := ⟨tm3_3 (List.mem_of_getElem? (i := 4) rfl) rfl, tm1_0 (List.mem_of_getElem? (i := 1) rfl) rfl, by decide +kernel, by decide +kernel, by decide +kernel⟩
theorem iX6_lag : Cond.instanceMethod yX6_lag ∈ gdT := tm3_3 (List.mem_of_getElem? (i := 2) rfl) rfl
theorem vX6_lag : Cond.selects RX6 yX6_lag yX6_lag ∈ gdT := tm3_3 (List.mem_of_getElem? (i := 3) rfl) rfl
abbrev kX6_least : Kd := (yX6_least, cX6_least, 3, some .int, (2, 48), (0, 0))
theorem mX6_least : MK kX6_least 2 := ⟨tm3_2 (List.mem_of_getElem? (i := 7) rfl) rfl, tm1_0 (List.mem_of_getElem? (i := 1) rfl) rfl, by decide +kernel, by decide +kernel, by decide +kernel⟩
theorem iX6_least : Cond.instanceMethod yX6_least ∈ gdT := tm3_2 (List.mem_of_getElem? (i := 5) rfl) rfl
theorem vX6_least : Cond.selects RX6 yX6_least yX6_least ∈ gdT := tm3_2 (List.mem_of_getElem? (i := 6) rfl) rfl
abbrev kX6_led : Kd := (yX6_led, cX6_led, 2, some .int, (1, 21), (0, 0))
theorem mX6_led : MK kX6_led 1 := ⟨tm3_6 (List.mem_of_getElem? (i := 4) rfl) rfl, tm1_0 (List.mem_of_getElem? (i := 1) rfl) rfl, by decide +kernel, by decide +kernel, by decide +kernel⟩
theorem iX6_led : Cond.instanceMethod yX6_led ∈ gdT := tm3_6 (List.mem_of_getElem? (i := 2) rfl) rfl
theorem vX6_led : Cond.selects RX6 yX6_led yX6_led ∈ gdT := tm3_6 (List.mem_of_getElem? (i := 3) rfl) rfl
abbrev kX6_look : Kd := (yX6_look, cX6_look, 2, some .int, (5, 104), (1, 1060))
theorem mX6_look : MK kX6_look 1 := ⟨tm2_2 (List.mem_of_getElem? (i := 9) rfl) rfl, tm1_0 (List.mem_of_getElem? (i := 1) rfl) rfl, by decide +kernel, by decide +kernel, by decide +kernel⟩
theorem iX6_look : Cond.instanceMethod yX6_look ∈ gdT := tm2_2 (List.mem_of_getElem? (i := 7) rfl) rfl
theorem vX6_look : Cond.selects RX6 yX6_look yX6_look ∈ gdT := tm2_2 (List.mem_of_getElem? (i := 8) rfl) rfl
abbrev kX6_next : Kd := (yX6_next, cX6_next, 1, some .int, (5, 104), (1, 1060))
theorem mX6_next : MK kX6_next 0 := ⟨tm2_11 (List.mem_of_getElem? (i := 4) rfl) rfl, tm1_0 (List.mem_of_getElem? (i := 1) rfl) rfl, by decide +kernel, by decide +kernel, by decide +kernel⟩
theorem iX6_next : Cond.instanceMethod yX6_next ∈ gdT := tm2_11 (List.mem_of_getElem? (i := 2) rfl) rfl
theorem vX6_next : Cond.selects RX6 yX6_next yX6_next ∈ gdT := tm2_11 (List.mem_of_getElem? (i := 3) rfl) rfl
abbrev kX6_noted : Kd := (yX6_noted, cX6_noted, 2, some .int, (4, 83), (1, 1060))
theorem mX6_noted : MK kX6_noted 1 := ⟨tm2_1 (List.mem_of_getElem? (i := 14) rfl) rfl, tm1_0 (List.mem_of_getElem? (i := 1) rfl) rfl, by decide +kernel, by decide +kernel, by decide +kernel⟩
theorem iX6_noted : Cond.instanceMethod yX6_noted ∈ gdT := tm2_1 (List.mem_of_getElem? (i := 13) rfl) rfl
theorem vX6_noted : Cond.selects RX6 yX6_noted yX6_noted ∈ gdT := tp (i := 6) (by decide +kernel) rfl
abbrev kX6_orders : Kd := (yX6_orders, cX6_orders, 4, some .int, (6, 152), (0, 0))
theorem mX6_orders : MK kX6_orders 3 := ⟨tm4_3 (List.mem_of_getElem? (i := 10) rfl) rfl, tm1_0 (List.mem_of_getElem? (i := 1) rfl) rfl, by decide +kernel, by decide +kernel, by decide +kernel⟩
theorem iX6_orders : Cond.instanceMethod yX6_orders ∈ gdT := tm4_3 (List.mem_of_getElem? (i := 8) rfl) rfl
theorem vX6_orders : Cond.selects RX6 yX6_orders yX6_orders ∈ gdT := tm4_3 (List.mem_of_getElem? (i := 9) rfl) rfl
abbrev kX6_outdated : Kd := (yX6_outdated, cX6_outdated, 2, some .int, (2, 46), (0, 0))
theorem mX6_outdated : MK kX6_outdated 1 := ⟨tm3_2 (List.mem_of_getElem? (i := 12) rfl) rfl, tm1_0 (List.mem_of_getElem? (i := 1) rfl) rfl, by decide +kernel, by decide +kernel, by decide +kernel⟩
theorem iX6_outdated : Cond.instanceMethod yX6_outdated ∈ gdT := tm3_2 (List.mem_of_getElem? (i := 10) rfl) rfl
theorem vX6_outdated : Cond.selects RX6 yX6_outdated yX6_outdated ∈ gdT := tm3_2 (List.mem_of_getElem? (i := 11) rfl) rfl
abbrev kX6_own : Kd := (yX6_own, cX6_own, 4, some .int, (3, 67), (0, 0))
theorem mX6_own : MK kX6_own 2 := ⟨tm3_3 (List.mem_of_getElem? (i := 12) rfl) rfl, tm1_0 (List.mem_of_getElem? (i := 1) rfl) rfl, by decide +kernel, by decide +kernel, by decide +kernel⟩
theorem iX6_own : Cond.instanceMethod yX6_own ∈ gdT := tm3_3 (List.mem_of_getElem? (i := 10) rfl) rfl
theorem vX6_own : Cond.selects RX6 yX6_own yX6_own ∈ gdT := tm3_3 (List.mem_of_getElem? (i := 11) rfl) rfl
abbrev kX6_placeRefusal : Kd := (yX6_placeRefusal, cX6_placeRefusal, 3, some .int, (1, 21), (0, 0))
theorem mX6_placeRefusal : MK kX6_placeRefusal 2 := ⟨tm4_9 (List.mem_of_getElem? (i := 4) rfl) rfl, tm1_0 (List.mem_of_getElem? (i := 1) rfl) rfl, by decide +kernel, by decide +kernel, by decide +kernel⟩
theorem iX6_placeRefusal : Cond.instanceMethod yX6_placeRefusal ∈ gdT := tm4_9 (List.mem_of_getElem? (i := 3) rfl) rfl
theorem vX6_placeRefusal : Cond.selects RX6 yX6_placeRefusal yX6_placeRefusal ∈ gdT := tp (i := 34) (by decide +kernel) rfl
abbrev kX6_plan : Kd := (yX6_plan, cX6_plan, 4, some .int, (9, 197), (0, 0))
theorem mX6_plan : MK kX6_plan 1 := ⟨tm3_12 (List.mem_of_getElem? (i := 15) rfl) rfl, tm1_0 (List.mem_of_getElem? (i := 1) rfl) rfl, by decide +kernel, by decide +kernel, by decide +kernel⟩
theorem iX6_plan : Cond.instanceMethod yX6_plan ∈ gdT := tm3_12 (List.mem_of_getElem? (i := 13) rfl) rfl
theorem vX6_plan : Cond.selects RX6 yX6_plan yX6_plan ∈ gdT := tm3_12 (List.mem_of_getElem? (i := 14) rfl) rfl
abbrev kX6_plansThere : Kd := (yX6_plansThere, cX6_plansThere, 3, some .int, (0, 0), (0, 0))
theorem mX6_plansThere : MK kX6_plansThere 0 := ⟨tm4_12 (List.mem_of_getElem? (i := 10) rfl) rfl, tm1_0 (List.mem_of_getElem? (i := 1) rfl) rfl, by decide +kernel, by decide +kernel, by decide +kernel⟩
theorem iX6_plansThere : Cond.instanceMethod yX6_plansThere ∈ gdT := tm4_12 (List.mem_of_getElem? (i := 9) rfl) rfl
theorem vX6_plansThere : Cond.selects RX6 yX6_plansThere yX6_plansThere ∈ gdT := tp (i := 37) (by decide +kernel) rfl
abbrev kX6_put : Kd := (yX6_put, cX6_put, 6, some .int, (2, 43), (0, 0))
theorem mX6_put : MK kX6_put 3 := ⟨tm4_9 (List.mem_of_getElem? (i := 0) rfl) rfl, tm1_0 (List.mem_of_getElem? (i := 1) rfl) rfl, by decide +kernel, by decide +kernel, by decide +kernel⟩
theorem iX6_put : Cond.instanceMethod yX6_put ∈ gdT := tm4_8 (List.mem_of_getElem? (i := 14) rfl) rfl
theorem vX6_put : Cond.selects RX6 yX6_put yX6_put ∈ gdT := tm4_8 (List.mem_of_getElem? (i := 15) rfl) rfl
abbrev kX6_redo : Kd := (yX6_redo, cX6_redo, 1, some .int, (4, 84), (0, 0))
theorem mX6_redo : MK kX6_redo 0 := ⟨tm2_13 (List.mem_of_getElem? (i := 6) rfl) rfl, tm1_0 (List.mem_of_getElem? (i := 1) rfl) rfl, by decide +kernel, by decide +kernel, by decide +kernel⟩
theorem iX6_redo : Cond.instanceMethod yX6_redo ∈ gdT := tm2_13 (List.mem_of_getElem? (i := 4) rfl) rfl
theorem vX6_redo : Cond.selects RX6 yX6_redo yX6_redo ∈ gdT := tm2_13 (List.mem_of_getElem? (i := 5) rfl) rfl
abbrev kX6_region : Kd := (yX6_region, cX6_region, 3, some .int, (1, 21), (0, 0))
theorem mX6_region : MK kX6_region 2 := ⟨tm3_1 (List.mem_of_getElem? (i := 5) rfl) rfl, tm1_0 (List.mem_of_getElem? (i := 1) rfl) rfl, by decide +kernel, by decide +kernel, by decide +kernel⟩
theorem iX6_region : Cond.instanceMethod yX6_region ∈ gdT := tm3_1 (List.mem_of_getElem? (i := 3) rfl) rfl
theorem vX6_region : Cond.selects RX6 yX6_region yX6_region ∈ gdT := tm3_1 (List.mem_of_getElem? (i := 4) rfl) rfl
abbrev kX6_restore : Kd := (yX6_restore, cX6_restore, 6, some .int, (5, 104), (1, 1060))
theorem mX6_restore : MK kX6_restore 4 := ⟨tm4_10 (List.mem_of_getElem? (i := 6) rfl) rfl, tm1_0 (List.mem_of_getElem? (i := 1) rfl) rfl, by decide +kernel, by decide +kernel, by decide +kernel⟩
theorem iX6_restore : Cond.instanceMethod yX6_restore ∈ gdT := tm4_10 (List.mem_of_getElem? (i := 4) rfl) rfl
theorem vX6_restore : Cond.selects RX6 yX6_restore yX6_restore ∈ gdT := tm4_10 (List.mem_of_getElem? (i := 5) rfl) rfl
abbrev kX6_restoreOne : Kd := (yX6_restoreOne, cX6_restoreOne, 8, some .boolean, (3, 76), (0, 0))
theorem mX6_restoreOne : MK kX6_restoreOne 2 := ⟨tm4_10 (List.mem_of_getElem? (i := 10) rfl) rfl, tm1_0 (List.mem_of_getElem? (i := 1) rfl) rfl, by decide +kernel, by decide +kernel, by decide +kernel⟩
theorem iX6_restoreOne : Cond.instanceMethod yX6_restoreOne ∈ gdT := tm4_10 (List.mem_of_getElem? (i := 9) rfl) rfl
theorem vX6_restoreOne : Cond.selects RX6 yX6_restoreOne yX6_restoreOne ∈ gdT := tp (i := 36) (by decide +kernel) rfl
abbrev kX6_row : Kd := (yX6_row, cX6_row, 3, some .int, (1, 24), (0, 0))
theorem mX6_row : MK kX6_row 2 := ⟨tm4_8 (List.mem_of_getElem? (i := 11) rfl) rfl, tm1_0 (List.mem_of_getElem? (i := 1) rfl) rfl, by decide +kernel, by decide +kernel, by decide +kernel⟩
theorem iX6_row : Cond.instanceMethod yX6_row ∈ gdT := tm4_8 (List.mem_of_getElem? (i := 9) rfl) rfl
theorem vX6_row : Cond.selects RX6 yX6_row yX6_row ∈ gdT := tm4_8 (List.mem_of_getElem? (i := 10) rfl) rfl
abbrev kX6_save : Kd := (yX6_save, cX6_save, 7, some .int, (3, 68), (0, 0))
theorem mX6_save : MK kX6_save 3 := ⟨tm4_9 (List.mem_of_getElem? (i := 13) rfl) rfl, tm1_0 (List.mem_of_getElem? (i := 1) rfl) rfl, by decide +kernel, by decide +kernel, by decide +kernel⟩
theorem iX6_save : Cond.instanceMethod yX6_save ∈ gdT := tm4_9 (List.mem_of_getElem? (i := 11) rfl) rfl
theorem vX6_save : Cond.selects RX6 yX6_save yX6_save ∈ gdT := tm4_9 (List.mem_of_getElem? (i := 12) rfl) rfl
abbrev kX6_savedLong : Kd := (yX6_savedLong, cX6_savedLong, 5, some .long, (2, 44), (0, 0))
theorem mX6_savedLong : MK kX6_savedLong 2 := ⟨tm4_10 (List.mem_of_getElem? (i := 1) rfl) rfl, tm1_0 (List.mem_of_getElem? (i := 1) rfl) rfl, by decide +kernel, by decide +kernel, by decide +kernel⟩
theorem iX6_savedLong : Cond.instanceMethod yX6_savedLong ∈ gdT := tm4_10 (List.mem_of_getElem? (i := 0) rfl) rfl
theorem vX6_savedLong : Cond.selects RX6 yX6_savedLong yX6_savedLong ∈ gdT := tp (i := 35) (by decide +kernel) rfl
abbrev kX6_set : Kd := (yX6_set, cX6_set, 3, some .int, (5, 104), (1, 1060))
theorem mX6_set : MK kX6_set 2 := ⟨tm2_10 (List.mem_of_getElem? (i := 8) rfl) rfl, tm1_0 (List.mem_of_getElem? (i := 1) rfl) rfl, by decide +kernel, by decide +kernel, by decide +kernel⟩
theorem iX6_set : Cond.instanceMethod yX6_set ∈ gdT := tm2_10 (List.mem_of_getElem? (i := 6) rfl) rfl
theorem vX6_set : Cond.selects RX6 yX6_set yX6_set ∈ gdT := tm2_10 (List.mem_of_getElem? (i := 7) rfl) rfl
abbrev kX6_setting : Kd := (yX6_setting, cX6_setting, 2, some .int, (1, 21), (0, 0))
theorem mX6_setting : MK kX6_setting 1 := ⟨tm2_13 (List.mem_of_getElem? (i := 14) rfl) rfl, tm1_0 (List.mem_of_getElem? (i := 1) rfl) rfl, by decide +kernel, by decide +kernel, by decide +kernel⟩
theorem iX6_setting : Cond.instanceMethod yX6_setting ∈ gdT := tm2_13 (List.mem_of_getElem? (i := 12) rfl) rfl
theorem vX6_setting : Cond.selects RX6 yX6_setting yX6_setting ∈ gdT := tm2_13 (List.mem_of_getElem? (i := 13) rfl) rfl
abbrev kX6_settled : Kd := (yX6_settled, cX6_settled, 3, some .int, (5, 110), (0, 0))
theorem mX6_settled : MK kX6_settled 1 := ⟨tm3_9 (List.mem_of_getElem? (i := 3) rfl) rfl, tm1_0 (List.mem_of_getElem? (i := 1) rfl) rfl, by decide +kernel, by decide +kernel, by decide +kernel⟩
theorem iX6_settled : Cond.instanceMethod yX6_settled ∈ gdT := tm3_9 (List.mem_of_getElem? (i := 1) rfl) rfl
theorem vX6_settled : Cond.selects RX6 yX6_settled yX6_settled ∈ gdT := tm3_9 (List.mem_of_getElem? (i := 2) rfl) rfl
abbrev kX6_store : Kd := (yX6_store, cX6_store, 5, some .int, (2, 41), (0, 0))
theorem mX6_store : MK kX6_store 3 := ⟨tm3_0 (List.mem_of_getElem? (i := 14) rfl) rfl, tm1_0 (List.mem_of_getElem? (i := 1) rfl) rfl, by decide +kernel, by decide +kernel, by decide +kernel⟩
theorem iX6_store : Cond.instanceMethod yX6_store ∈ gdT := tm3_0 (List.mem_of_getElem? (i := 12) rfl) rfl
theorem vX6_store : Cond.selects RX6 yX6_store yX6_store ∈ gdT := tm3_0 (List.mem_of_getElem? (i := 13) rfl) rfl
abbrev kX6_storm : Kd := (yX6_storm, cX6_storm, 6, some .int, (6, 150), (0, 0))
theorem mX6_storm : MK kX6_storm 4 := ⟨tm3_6 (List.mem_of_getElem? (i := 12) rfl) rfl, tm1_0 (List.mem_of_getElem? (i := 1) rfl) rfl, by decide +kernel, by decide +kernel, by decide +kernel⟩
theorem iX6_storm : Cond.instanceMethod yX6_storm ∈ gdT := tm3_6 (List.mem_of_getElem? (i := 10) rfl) rfl
theorem vX6_storm : Cond.selects RX6 yX6_storm yX6_storm ∈ gdT := tm3_6 (List.mem_of_getElem? (i := 11) rfl) rfl
abbrev kX6_tick : Kd := (yX6_tick, cX6_tick, 2, some .int, (5, 104), (1, 1060))
theorem mX6_tick : MK kX6_tick 1 := ⟨tm2_9 (List.mem_of_getElem? (i := 0) rfl) rfl, tm1_0 (List.mem_of_getElem? (i := 1) rfl) rfl, by decide +kernel, by decide +kernel, by decide +kernel⟩
theorem iX6_tick : Cond.instanceMethod yX6_tick ∈ gdT := tm2_8 (List.mem_of_getElem? (i := 14) rfl) rfl
theorem vX6_tick : Cond.selects RX6 yX6_tick yX6_tick ∈ gdT := tm2_8 (List.mem_of_getElem? (i := 15) rfl) rfl
abbrev kX6_tried : Kd := (yX6_tried, cX6_tried, 4, some .int, (5, 126), (0, 0))
theorem mX6_tried : MK kX6_tried 3 := ⟨tm3_10 (List.mem_of_getElem? (i := 5) rfl) rfl, tm1_0 (List.mem_of_getElem? (i := 1) rfl) rfl, by decide +kernel, by decide +kernel, by decide +kernel⟩
theorem iX6_tried : Cond.instanceMethod yX6_tried ∈ gdT := tm3_10 (List.mem_of_getElem? (i := 3) rfl) rfl
theorem vX6_tried : Cond.selects RX6 yX6_tried yX6_tried ∈ gdT := tm3_10 (List.mem_of_getElem? (i := 4) rfl) rfl
abbrev kX6_undo : Kd := (yX6_undo, cX6_undo, 1, some .int, (4, 84), (0, 0))
theorem mX6_undo : MK kX6_undo 0 := ⟨tm2_12 (List.mem_of_getElem? (i := 6) rfl) rfl, tm1_0 (List.mem_of_getElem? (i := 1) rfl) rfl, by decide +kernel, by decide +kernel, by decide +kernel⟩
theorem iX6_undo : Cond.instanceMethod yX6_undo ∈ gdT := tm2_12 (List.mem_of_getElem? (i := 4) rfl) rfl
theorem vX6_undo : Cond.selects RX6 yX6_undo yX6_undo ∈ gdT := tm2_12 (List.mem_of_getElem? (i := 5) rfl) rfl
abbrev kX6_wantedLast : Kd := (yX6_wantedLast, cX6_wantedLast, 6, some .int, (1, 20), (0, 0))
theorem mX6_wantedLast : MK kX6_wantedLast 4 := ⟨tm3_12 (List.mem_of_getElem? (i := 3) rfl) rfl, tm1_0 (List.mem_of_getElem? (i := 1) rfl) rfl, by decide +kernel, by decide +kernel, by decide +kernel⟩
theorem sX6_wantedLast : Cond.static yX6_wantedLast ∈ gdT := tm3_12 (List.mem_of_getElem? (i := 2) rfl) rfl
abbrev kX6_within : Kd := (yX6_within, cX6_within, 5, some .int, (2, 43), (0, 0))
theorem mX6_within : MK kX6_within 3 := ⟨tm3_1 (List.mem_of_getElem? (i := 15) rfl) rfl, tm1_0 (List.mem_of_getElem? (i := 1) rfl) rfl, by decide +kernel, by decide +kernel, by decide +kernel⟩
theorem iX6_within : Cond.instanceMethod yX6_within ∈ gdT := tm3_1 (List.mem_of_getElem? (i := 13) rfl) rfl
theorem vX6_within : Cond.selects RX6 yX6_within yX6_within ∈ gdT := tm3_1 (List.mem_of_getElem? (i := 14) rfl) rfl
abbrev kX6_witness : Kd := (yX6_witness, cX6_witness, 3, some .int, (6, 152), (0, 0))
theorem mX6_witness : MK kX6_witness 2 := ⟨tm4_8 (List.mem_of_getElem? (i := 3) rfl) rfl, tm1_0 (List.mem_of_getElem? (i := 1) rfl) rfl, by decide +kernel, by decide +kernel, by decide +kernel⟩
theorem iX6_witness : Cond.instanceMethod yX6_witness ∈ gdT := tm4_8 (List.mem_of_getElem? (i := 1) rfl) rfl
theorem vX6_witness : Cond.selects RX6 yX6_witness yX6_witness ∈ gdT := tm4_8 (List.mem_of_getElem? (i := 2) rfl) rfl
abbrev kX6_write : Kd := (yX6_write, cX6_write, 4, some .int, (5, 104), (1, 1060))
theorem mX6_write : MK kX6_write 3 := ⟨tm2_7 (List.mem_of_getElem? (i := 0) rfl) rfl, tm1_0 (List.mem_of_getElem? (i := 1) rfl) rfl, by decide +kernel, by decide +kernel, by decide +kernel⟩
theorem iX6_write : Cond.instanceMethod yX6_write ∈ gdT := tm2_6 (List.mem_of_getElem? (i := 14) rfl) rfl
theorem vX6_write : Cond.selects RX6 yX6_write yX6_write ∈ gdT := tm2_6 (List.mem_of_getElem? (i := 15) rfl) rfl
abbrev kX7_actsOf : Kd := (yX7_actsOf, cX7_actsOf, 5, some .int, (1, 25), (0, 0))
theorem mX7_actsOf : MK kX7_actsOf 1 := ⟨tm6_5 (List.mem_of_getElem? (i := 15) rfl) rfl, tm1_0 (List.mem_of_getElem? (i := 10) rfl) rfl, by decide +kernel, by decide +kernel, by decide +kernel⟩
theorem iX7_actsOf : Cond.instanceMethod yX7_actsOf ∈ gdT := tm6_5 (List.mem_of_getElem? (i := 14) rfl) rfl
theorem vX7_actsOf : Cond.selects RX7 yX7_actsOf yX7_actsOf ∈ gdT := tp (i := 62) (by decide +kernel) rfl
abbrev kX7_allHave : Kd := (yX7_allHave, cX7_allHave, 3, some .boolean, (0, 0), (0, 0))
theorem mX7_allHave : MK kX7_allHave 1 := ⟨tm6_8 (List.mem_of_getElem? (i := 9) rfl) rfl, tm1_0 (List.mem_of_getElem? (i := 10) rfl) rfl, by decide +kernel, by decide +kernel, by decide +kernel⟩
theorem iX7_allHave : Cond.instanceMethod yX7_allHave ∈ gdT := tm6_8 (List.mem_of_getElem? (i := 8) rfl) rfl
theorem vX7_allHave : Cond.selects RX7 yX7_allHave yX7_allHave ∈ gdT := tp (i := 69) (by decide +kernel) rfl
abbrev kX7_apply : Kd := (yX7_apply, cX7_apply, 2, some .int, (3, 67), (0, 0))
theorem mX7_apply : MK kX7_apply 1 := ⟨tm5_11 (List.mem_of_getElem? (i := 8) rfl) rfl, tm1_0 (List.mem_of_getElem? (i := 10) rfl) rfl, by decide +kernel, by decide +kernel, by decide +kernel⟩
theorem iX7_apply : Cond.instanceMethod yX7_apply ∈ gdT := tm5_11 (List.mem_of_getElem? (i := 6) rfl) rfl
theorem vX7_apply : Cond.selects RX7 yX7_apply yX7_apply ∈ gdT := tm5_11 (List.mem_of_getElem? (i := 7) rfl) rfl
abbrev kX7_back : Kd := (yX7_back, cX7_back, 1, some .int, (1, 20), (0, 0))
theorem mX7_back : MK kX7_back 0 := ⟨tm6_13 (List.mem_of_getElem? (i := 6) rfl) rfl, tm1_0 (List.mem_of_getElem? (i := 10) rfl) rfl, by decide +kernel, by decide +kernel, by decide +kernel⟩
theorem iX7_back : Cond.instanceMethod yX7_back ∈ gdT := tm6_13 (List.mem_of_getElem? (i := 4) rfl) rfl
theorem vX7_back : Cond.selects RX7 yX7_back yX7_back ∈ gdT := tm6_13 (List.mem_of_getElem? (i := 5) rfl) rfl
abbrev kX7_beside : Kd := (yX7_beside, cX7_beside, 5, some .int, (2, 45), (0, 0))
theorem mX7_beside : MK kX7_beside 3 := ⟨tm5_14 (List.mem_of_getElem? (i := 5) rfl) rfl, tm1_0 (List.mem_of_getElem? (i := 10) rfl) rfl, by decide +kernel, by decide +kernel, by decide +kernel⟩
theorem iX7_beside : Cond.instanceMethod yX7_beside ∈ gdT := tm5_14 (List.mem_of_getElem? (i := 3) rfl) rfl
theorem vX7_beside : Cond.selects RX7 yX7_beside yX7_beside ∈ gdT := tm5_14 (List.mem_of_getElem? (i := 4) rfl) rfl
abbrev kX7_best : Kd := (yX7_best, cX7_best, 5, some .int, (4, 99), (0, 0))
theorem mX7_best : MK kX7_best 2 := ⟨tm6_10 (List.mem_of_getElem? (i := 8) rfl) rfl, tm1_0 (List.mem_of_getElem? (i := 10) rfl) rfl, by decide +kernel, by decide +kernel, by decide +kernel⟩
theorem iX7_best : Cond.instanceMethod yX7_best ∈ gdT := tm6_10 (List.mem_of_getElem? (i := 6) rfl) rfl
theorem vX7_best : Cond.selects RX7 yX7_best yX7_best ∈ gdT := tm6_10 (List.mem_of_getElem? (i := 7) rfl) rfl
abbrev kX7_client : Kd := (yX7_client, cX7_client, 4, some .int, (2, 45), (0, 0))
theorem mX7_client : MK kX7_client 2 := ⟨tm5_14 (List.mem_of_getElem? (i := 9) rfl) rfl, tm1_0 (List.mem_of_getElem? (i := 10) rfl) rfl, by decide +kernel, by decide +kernel, by decide +kernel⟩
theorem iX7_client : Cond.instanceMethod yX7_client ∈ gdT := tm5_14 (List.mem_of_getElem? (i := 7) rfl) rfl
theorem vX7_client : Cond.selects RX7 yX7_client yX7_client ∈ gdT := tm5_14 (List.mem_of_getElem? (i := 8) rfl) rfl
abbrev kX7_cold : Kd := (yX7_cold, cX7_cold, 4, some .int, (2, 45), (0, 0))
theorem mX7_cold : MK kX7_cold 2 := ⟨tm5_12 (List.mem_of_getElem? (i := 9) rfl) rfl, tm1_0 (List.mem_of_getElem? (i := 10) rfl) rfl, by decide +kernel, by decide +kernel, by decide +kernel⟩
theorem iX7_cold : Cond.instanceMethod yX7_cold ∈ gdT := tm5_12 (List.mem_of_getElem? (i := 7) rfl) rfl
theorem vX7_cold : Cond.selects RX7 yX7_cold yX7_cold ∈ gdT := tm5_12 (List.mem_of_getElem? (i := 8) rfl) rfl
abbrev kX7_count : Kd := (yX7_count, cX7_count, 4, some .int, (2, 44), (0, 0))
theorem mX7_count : MK kX7_count 1 := ⟨tm6_9 (List.mem_of_getElem? (i := 5) rfl) rfl, tm1_0 (List.mem_of_getElem? (i := 10) rfl) rfl, by decide +kernel, by decide +kernel, by decide +kernel⟩
theorem iX7_count : Cond.instanceMethod yX7_count ∈ gdT := tm6_9 (List.mem_of_getElem? (i := 3) rfl) rfl
theorem vX7_count : Cond.selects RX7 yX7_count yX7_count ∈ gdT := tm6_9 (List.mem_of_getElem? (i := 4) rfl) rfl
abbrev kX7_deletes : Kd := (yX7_deletes, cX7_deletes, 4, none, (1, 21), (0, 0))
theorem mX7_deletes : MK kX7_deletes 2 := ⟨tm5_11 (List.mem_of_getElem? (i := 4) rfl) rfl, tm1_0 (List.mem_of_getElem? (i := 10) rfl) rfl, by decide +kernel, by decide +kernel, by decide +kernel⟩
theorem iX7_deletes : Cond.instanceMethod yX7_deletes ∈ gdT := tm5_11 (List.mem_of_getElem? (i := 3) rfl) rfl
theorem vX7_deletes : Cond.selects RX7 yX7_deletes yX7_deletes ∈ gdT := tp (i := 52) (by decide +kernel) rfl
abbrev kX7_doApply : Kd := (yX7_doApply, cX7_doApply, 4, some .int, (2, 44), (0, 0))
theorem mX7_doApply : MK kX7_doApply 1 := ⟨tm5_12 (List.mem_of_getElem? (i := 0) rfl) rfl, tm1_0 (List.mem_of_getElem? (i := 10) rfl) rfl, by decide +kernel, by decide +kernel, by decide +kernel⟩
theorem iX7_doApply : Cond.instanceMethod yX7_doApply ∈ gdT := tm5_11 (List.mem_of_getElem? (i := 15) rfl) rfl
theorem vX7_doApply : Cond.selects RX7 yX7_doApply yX7_doApply ∈ gdT := tp (i := 53) (by decide +kernel) rfl
abbrev kX7_doCold : Kd := (yX7_doCold, cX7_doCold, 4, none, (1, 21), (0, 0))
theorem mX7_doCold : MK kX7_doCold 2 := ⟨tm5_13 (List.mem_of_getElem? (i := 0) rfl) rfl, tm1_0 (List.mem_of_getElem? (i := 10) rfl) rfl, by decide +kernel, by decide +kernel, by decide +kernel⟩
theorem iX7_doCold : Cond.instanceMethod yX7_doCold ∈ gdT := tm5_12 (List.mem_of_getElem? (i := 15) rfl) rfl
theorem vX7_doCold : Cond.selects RX7 yX7_doCold yX7_doCold ∈ gdT := tp (i := 54) (by decide +kernel) rfl
abbrev kX7_doFill : Kd := (yX7_doFill, cX7_doFill, 7, some .int, (3, 71), (0, 0))
theorem mX7_doFill : MK kX7_doFill 1 := ⟨tm5_9 (List.mem_of_getElem? (i := 8) rfl) rfl, tm1_0 (List.mem_of_getElem? (i := 10) rfl) rfl, by decide +kernel, by decide +kernel, by decide +kernel⟩
theorem iX7_doFill : Cond.instanceMethod yX7_doFill ∈ gdT := tm5_9 (List.mem_of_getElem? (i := 7) rfl) rfl
theorem vX7_doFill : Cond.selects RX7 yX7_doFill yX7_doFill ∈ gdT := tp (i := 47) (by decide +kernel) rfl
abbrev kX7_doGet : Kd := (yX7_doGet, cX7_doGet, 7, some .int, (2, 41), (0, 0))
theorem mX7_doGet : MK kX7_doGet 2 := ⟨tm5_6 (List.mem_of_getElem? (i := 3) rfl) rfl, tm1_0 (List.mem_of_getElem? (i := 10) rfl) rfl, by decide +kernel, by decide +kernel, by decide +kernel⟩
theorem iX7_doGet : Cond.instanceMethod yX7_doGet ∈ gdT := tm5_6 (List.mem_of_getElem? (i := 2) rfl) rfl
theorem vX7_doGet : Cond.selects RX7 yX7_doGet yX7_doGet ∈ gdT := tp (i := 38) (by decide +kernel) rfl
abbrev kX7_doLook : Kd := (yX7_doLook, cX7_doLook, 9, some .int, (3, 66), (0, 0))
theorem mX7_doLook : MK kX7_doLook 1 := ⟨tm5_8 (List.mem_of_getElem? (i := 0) rfl) rfl, tm1_0 (List.mem_of_getElem? (i := 10) rfl) rfl, by decide +kernel, by decide +kernel, by decide +kernel⟩
theorem iX7_doLook : Cond.instanceMethod yX7_doLook ∈ gdT := tm5_7 (List.mem_of_getElem? (i := 15) rfl) rfl
theorem vX7_doLook : Cond.selects RX7 yX7_doLook yX7_doLook ∈ gdT := tp (i := 42) (by decide +kernel) rfl
abbrev kX7_doWrite : Kd := (yX7_doWrite, cX7_doWrite, 5, some .int, (2, 44), (0, 0))
theorem mX7_doWrite : MK kX7_doWrite 3 := ⟨tm5_11 (List.mem_of_getElem? (i := 0) rfl) rfl, tm1_0 (List.mem_of_getElem? (i := 10) rfl) rfl, by decide +kernel, by decide +kernel, by decide +kernel⟩
theorem iX7_doWrite : Cond.instanceMethod yX7_doWrite ∈ gdT := tm5_10 (List.mem_of_getElem? (i := 15) rfl) rfl
theorem vX7_doWrite : Cond.selects RX7 yX7_doWrite yX7_doWrite ∈ gdT := tp (i := 51) (by decide +kernel) rfl
abbrev kX7_does : Kd := (yX7_does, cX7_does, 6, none, (4, 97), (0, 0))
theorem mX7_does : MK kX7_does 2 := ⟨tm6_7 (List.mem_of_getElem? (i := 2) rfl) rfl, tm1_0 (List.mem_of_getElem? (i := 10) rfl) rfl, by decide +kernel, by decide +kernel, by decide +kernel⟩
theorem iX7_does : Cond.instanceMethod yX7_does ∈ gdT := tm6_7 (List.mem_of_getElem? (i := 1) rfl) rfl
theorem vX7_does : Cond.selects RX7 yX7_does yX7_does ∈ gdT := tp (i := 66) (by decide +kernel) rfl
abbrev kX7_due : Kd := (yX7_due, cX7_due, 5, some .int, (3, 75), (0, 0))
theorem mX7_due : MK kX7_due 2 := ⟨tm6_1 (List.mem_of_getElem? (i := 14) rfl) rfl, tm1_0 (List.mem_of_getElem? (i := 10) rfl) rfl, by decide +kernel, by decide +kernel, by decide +kernel⟩
theorem iX7_due : Cond.instanceMethod yX7_due ∈ gdT := tm6_1 (List.mem_of_getElem? (i := 12) rfl) rfl
theorem vX7_due : Cond.selects RX7 yX7_due yX7_due ∈ gdT := tm6_1 (List.mem_of_getElem? (i := 13) rfl) rfl
abbrev kX7_dueAt : Kd := (yX7_dueAt, cX7_dueAt, 13, some .long, (2, 43), (0, 0))
theorem mX7_dueAt : MK kX7_dueAt 1 := ⟨tm6_2 (List.mem_of_getElem? (i := 2) rfl) rfl, tm1_0 (List.mem_of_getElem? (i := 10) rfl) rfl, by decide +kernel, by decide +kernel, by decide +kernel⟩
theorem iX7_dueAt : Cond.instanceMethod yX7_dueAt ∈ gdT := tm6_2 (List.mem_of_getElem? (i := 1) rfl) rfl
theorem vX7_dueAt : Cond.selects RX7 yX7_dueAt yX7_dueAt ∈ gdT := tp (i := 56) (by decide +kernel) rfl
abbrev kX7_element : Kd := (yX7_element, cX7_element, 3, some .long, (3, 67), (0, 0))
theorem mX7_element : MK kX7_element 2 := ⟨tm6_12 (List.mem_of_getElem? (i := 0) rfl) rfl, tm1_0 (List.mem_of_getElem? (i := 10) rfl) rfl, by decide +kernel, by decide +kernel, by decide +kernel⟩
theorem iX7_element : Cond.instanceMethod yX7_element ∈ gdT := tm6_11 (List.mem_of_getElem? (i := 14) rfl) rfl
theorem vX7_element : Cond.selects RX7 yX7_element yX7_element ∈ gdT := tm6_11 (List.mem_of_getElem? (i := 15) rfl) rfl
abbrev kX7_entriesIn : Kd := (yX7_entriesIn, cX7_entriesIn, 4, some .int, (1, 21), (0, 0))
theorem mX7_entriesIn : MK kX7_entriesIn 1 := ⟨tm5_10 (List.mem_of_getElem? (i := 3) rfl) rfl, tm1_0 (List.mem_of_getElem? (i := 10) rfl) rfl, by decide +kernel, by decide +kernel, by decide +kernel⟩
theorem iX7_entriesIn : Cond.instanceMethod yX7_entriesIn ∈ gdT := tm5_10 (List.mem_of_getElem? (i := 2) rfl) rfl
theorem vX7_entriesIn : Cond.selects RX7 yX7_entriesIn yX7_entriesIn ∈ gdT := tp (i := 49) (by decide +kernel) rfl
abbrev kX7_entry : Kd := (yX7_entry, cX7_entry, 5, some .int, (2, 45), (0, 0))
theorem mX7_entry : MK kX7_entry 3 := ⟨tm5_14 (List.mem_of_getElem? (i := 1) rfl) rfl, tm1_0 (List.mem_of_getElem? (i := 10) rfl) rfl, by decide +kernel, by decide +kernel, by decide +kernel⟩
theorem iX7_entry : Cond.instanceMethod yX7_entry ∈ gdT := tm5_13 (List.mem_of_getElem? (i := 15) rfl) rfl
theorem vX7_entry : Cond.selects RX7 yX7_entry yX7_entry ∈ gdT := tm5_14 (List.mem_of_getElem? (i := 0) rfl) rfl
abbrev kX7_entryAt : Kd := (yX7_entryAt, cX7_entryAt, 2, some .int, (0, 0), (0, 0))
theorem mX7_entryAt : MK kX7_entryAt 2 := ⟨tm5_6 (List.mem_of_getElem? (i := 10) rfl) rfl, tm1_0 (List.mem_of_getElem? (i := 10) rfl) rfl, by decide +kernel, by decide +kernel, by decide +kernel⟩
theorem sX7_entryAt : Cond.static yX7_entryAt ∈ gdT := tm5_6 (List.mem_of_getElem? (i := 9) rfl) rfl
abbrev kX7_feed : Kd := (yX7_feed, cX7_feed, 2, some .int, (1, 25), (0, 0))
theorem mX7_feed : MK kX7_feed 1 := ⟨tm6_3 (List.mem_of_getElem? (i := 9) rfl) rfl, tm1_0 (List.mem_of_getElem? (i := 10) rfl) rfl, by decide +kernel, by decide +kernel, by decide +kernel⟩
theorem iX7_feed : Cond.instanceMethod yX7_feed ∈ gdT := tm6_3 (List.mem_of_getElem? (i := 7) rfl) rfl
theorem vX7_feed : Cond.selects RX7 yX7_feed yX7_feed ∈ gdT := tm6_3 (List.mem_of_getElem? (i := 8) rfl) rfl
abbrev kX7_fill : Kd := (yX7_fill, cX7_fill, 2, some .int, (4, 97), (0, 0))
theorem mX7_fill : MK kX7_fill 1 := ⟨tm5_9 (List.mem_of_getElem? (i := 4) rfl) rfl, tm1_0 (List.mem_of_getElem? (i := 10) rfl) rfl, by decide +kernel, by decide +kernel, by decide +kernel⟩
theorem iX7_fill : Cond.instanceMethod yX7_fill ∈ gdT := tm5_9 (List.mem_of_getElem? (i := 2) rfl) rfl
theorem vX7_fill : Cond.selects RX7 yX7_fill yX7_fill ∈ gdT := tm5_9 (List.mem_of_getElem? (i := 3) rfl) rfl
abbrev kX7_fills : Kd := (yX7_fills, cX7_fills, 6, none, (2, 46), (0, 0))
theorem mX7_fills : MK kX7_fills 4 := ⟨tm5_9 (List.mem_of_getElem? (i := 15) rfl) rfl, tm1_0 (List.mem_of_getElem? (i := 10) rfl) rfl, by decide +kernel, by decide +kernel, by decide +kernel⟩
theorem iX7_fills : Cond.instanceMethod yX7_fills ∈ gdT := tm5_9 (List.mem_of_getElem? (i := 14) rfl) rfl
theorem vX7_fills : Cond.selects RX7 yX7_fills yX7_fills ∈ gdT := tp (i := 48) (by decide +kernel) rfl
abbrev kX7_firstOrder : Kd := (yX7_firstOrder, cX7_firstOrder, 5, none, (0, 0), (0, 0))
theorem mX7_firstOrder : MK kX7_firstOrder 1 := ⟨tm6_6 (List.mem_of_getElem? (i := 10) rfl) rfl, tm1_0 (List.mem_of_getElem? (i := 10) rfl) rfl, by decide +kernel, by decide +kernel, by decide +kernel⟩
theorem iX7_firstOrder : Cond.instanceMethod yX7_firstOrder ∈ gdT := tm6_6 (List.mem_of_getElem? (i := 9) rfl) rfl
theorem vX7_firstOrder : Cond.selects RX7 yX7_firstOrder yX7_firstOrder ∈ gdT := tp (i := 64) (by decide +kernel) rfl
abbrev kX7_foreseen : Kd := (yX7_foreseen, cX7_foreseen, 9, some .int, (3, 66), (0, 0))
theorem mX7_foreseen : MK kX7_foreseen 2 := ⟨tm6_10 (List.mem_of_getElem? (i := 12) rfl) rfl, tm1_0 (List.mem_of_getElem? (i := 10) rfl) rfl, by decide +kernel, by decide +kernel, by decide +kernel⟩
theorem iX7_foreseen : Cond.instanceMethod yX7_foreseen ∈ gdT := tm6_10 (List.mem_of_getElem? (i := 10) rfl) rfl
theorem vX7_foreseen : Cond.selects RX7 yX7_foreseen yX7_foreseen ∈ gdT := tm6_10 (List.mem_of_getElem? (i := 11) rfl) rfl
abbrev kX7_get : Kd := (yX7_get, cX7_get, 3, some .int, (3, 67), (0, 0))
theorem mX7_get : MK kX7_get 2 := ⟨tm5_5 (List.mem_of_getElem? (i := 4) rfl) rfl, tm1_0 (List.mem_of_getElem? (i := 10) rfl) rfl, by decide +kernel, by decide +kernel, by decide +kernel⟩
theorem iX7_get : Cond.instanceMethod yX7_get ∈ gdT := tm5_5 (List.mem_of_getElem? (i := 2) rfl) rfl
theorem vX7_get : Cond.selects RX7 yX7_get yX7_get ∈ gdT := tm5_5 (List.mem_of_getElem? (i := 3) rfl) rfl
abbrev kX7_go : Kd := (yX7_go, cX7_go, 4, some .int, (2, 45), (0, 0))
theorem mX7_go : MK kX7_go 2 := ⟨tm5_13 (List.mem_of_getElem? (i := 4) rfl) rfl, tm1_0 (List.mem_of_getElem? (i := 10) rfl) rfl, by decide +kernel, by decide +kernel, by decide +kernel⟩
theorem iX7_go : Cond.instanceMethod yX7_go ∈ gdT := tm5_13 (List.mem_of_getElem? (i := 2) rfl) rfl
theorem vX7_go : Cond.selects RX7 yX7_go yX7_go ∈ gdT := tm5_13 (List.mem_of_getElem? (i := 3) rfl) rfl
abbrev kX7_goesThrough : Kd := (yX7_goesThrough, cX7_goesThrough, 6, none, (5, 122), (0, 0))
theorem mX7_goesThrough : MK kX7_goesThrough 2 := ⟨tm6_6 (List.mem_of_getElem? (i := 5) rfl) rfl, tm1_0 (List.mem_of_getElem? (i := 10) rfl) rfl, by decide +kernel, by decide +kernel, by decide +kernel⟩
theorem iX7_goesThrough : Cond.instanceMethod yX7_goesThrough ∈ gdT := tm6_6 (List.mem_of_getElem? (i := 4) rfl) rfl
theorem vX7_goesThrough : Cond.selects RX7 yX7_goesThrough yX7_goesThrough ∈ gdT := tp (i := 63) (by decide +kernel) rfl
abbrev kX7_groupOf : Kd := (yX7_groupOf, cX7_groupOf, 2, some .int, (1, 20), (0, 0))
theorem mX7_groupOf : MK kX7_groupOf 1 := ⟨tm5_6 (List.mem_of_getElem? (i := 7) rfl) rfl, tm1_0 (List.mem_of_getElem? (i := 10) rfl) rfl, by decide +kernel, by decide +kernel, by decide +kernel⟩
theorem iX7_groupOf : Cond.instanceMethod yX7_groupOf ∈ gdT := tm5_6 (List.mem_of_getElem? (i := 6) rfl) rfl
theorem vX7_groupOf : Cond.selects RX7 yX7_groupOf yX7_groupOf ∈ gdT := tp (i := 39) (by decide +kernel) rfl
abbrev kX7_hand : Kd := (yX7_hand, cX7_hand, 1, some .int, (0, 0), (0, 0))
theorem mX7_hand : MK kX7_hand 1 := ⟨tm4_13 (List.mem_of_getElem? (i := 11) rfl) rfl, tm1_0 (List.mem_of_getElem? (i := 10) rfl) rfl, by decide +kernel, by decide +kernel, by decide +kernel⟩
theorem sX7_hand : Cond.static yX7_hand ∈ gdT := tm4_13 (List.mem_of_getElem? (i := 10) rfl) rfl
abbrev kX7_hitsBy : Kd := (yX7_hitsBy, cX7_hitsBy, 9, some .int, (3, 71), (0, 0))
theorem mX7_hitsBy : MK kX7_hitsBy 3 := ⟨tm6_10 (List.mem_of_getElem? (i := 4) rfl) rfl, tm1_0 (List.mem_of_getElem? (i := 10) rfl) rfl, by decide +kernel, by decide +kernel, by decide +kernel⟩
theorem iX7_hitsBy : Cond.instanceMethod yX7_hitsBy ∈ gdT := tm6_10 (List.mem_of_getElem? (i := 3) rfl) rfl
theorem vX7_hitsBy : Cond.selects RX7 yX7_hitsBy yX7_hitsBy ∈ gdT := tp (i := 72) (by decide +kernel) rfl
abbrev kX7_holdAt : Kd := (yX7_holdAt, cX7_holdAt, 2, some .int, (0, 0), (0, 0))
theorem mX7_holdAt : MK kX7_holdAt 2 := ⟨tm5_9 (List.mem_of_getElem? (i := 11) rfl) rfl, tm1_0 (List.mem_of_getElem? (i := 10) rfl) rfl, by decide +kernel, by decide +kernel, by decide +kernel⟩
theorem sX7_holdAt : Cond.static yX7_holdAt ∈ gdT := tm5_9 (List.mem_of_getElem? (i := 10) rfl) rfl
abbrev kX7_hottest : Kd := (yX7_hottest, cX7_hottest, 5, some .int, (2, 45), (0, 0))
theorem mX7_hottest : MK kX7_hottest 1 := ⟨tm6_3 (List.mem_of_getElem? (i := 1) rfl) rfl, tm1_0 (List.mem_of_getElem? (i := 10) rfl) rfl, by decide +kernel, by decide +kernel, by decide +kernel⟩
theorem iX7_hottest : Cond.instanceMethod yX7_hottest ∈ gdT := tm6_2 (List.mem_of_getElem? (i := 15) rfl) rfl
theorem vX7_hottest : Cond.selects RX7 yX7_hottest yX7_hottest ∈ gdT := tm6_3 (List.mem_of_getElem? (i := 0) rfl) rfl
abbrev kX7_image : Kd := (yX7_image, cX7_image, 1, some .int, (1, 20), (0, 0))
theorem mX7_image : MK kX7_image 0 := ⟨tm6_13 (List.mem_of_getElem? (i := 2) rfl) rfl, tm1_0 (List.mem_of_getElem? (i := 10) rfl) rfl, by decide +kernel, by decide +kernel, by decide +kernel⟩
theorem iX7_image : Cond.instanceMethod yX7_image ∈ gdT := tm6_13 (List.mem_of_getElem? (i := 0) rfl) rfl
theorem vX7_image : Cond.selects RX7 yX7_image yX7_image ∈ gdT := tm6_13 (List.mem_of_getElem? (i := 1) rfl) rfl
abbrev kX7_in : Kd := (yX7_in, cX7_in, 6, some .boolean, (0, 0), (0, 0))
theorem mX7_in : MK kX7_in 3 := ⟨tm5_5 (List.mem_of_getElem? (i := 11) rfl) rfl, tm1_0 (List.mem_of_getElem? (i := 10) rfl) rfl, by decide +kernel, by decide +kernel, by decide +kernel⟩
theorem sX7_in : Cond.static yX7_in ∈ gdT := tm5_5 (List.mem_of_getElem? (i := 10) rfl) rfl
abbrev kX7_init : Kd := (yX7_init, cX7_init, 2, none, (1, 20), (20, 37000))
theorem mX7_init : MK kX7_init 0 := ⟨tm4_12 (List.mem_of_getElem? (i := 15) rfl) rfl, tm1_0 (List.mem_of_getElem? (i := 10) rfl) rfl, by decide +kernel, by decide +kernel, by decide +kernel⟩
theorem iX7_init : Cond.instanceMethod yX7_init ∈ gdT := tm4_12 (List.mem_of_getElem? (i := 14) rfl) rfl
abbrev kX7_isClient : Kd := (yX7_isClient, cX7_isClient, 1, some .boolean, (1, 25), (0, 0))
theorem mX7_isClient : MK kX7_isClient 1 := ⟨tm5_5 (List.mem_of_getElem? (i := 7) rfl) rfl, tm1_0 (List.mem_of_getElem? (i := 10) rfl) rfl, by decide +kernel, by decide +kernel, by decide +kernel⟩
theorem sX7_isClient : Cond.static yX7_isClient ∈ gdT := tm5_5 (List.mem_of_getElem? (i := 6) rfl) rfl
abbrev kX7_isFigure : Kd := (yX7_isFigure, cX7_isFigure, 1, some .boolean, (1, 25), (0, 0))
theorem mX7_isFigure : MK kX7_isFigure 0 := ⟨tm6_5 (List.mem_of_getElem? (i := 5) rfl) rfl, tm1_0 (List.mem_of_getElem? (i := 10) rfl) rfl, by decide +kernel, by decide +kernel, by decide +kernel⟩
theorem iX7_isFigure : Cond.instanceMethod yX7_isFigure ∈ gdT := tm6_5 (List.mem_of_getElem? (i := 4) rfl) rfl
theorem vX7_isFigure : Cond.selects RX7 yX7_isFigure yX7_isFigure ∈ gdT := tp (i := 61) (by decide +kernel) rfl
abbrev kX7_isGroup : Kd := (yX7_isGroup, cX7_isGroup, 1, some .boolean, (1, 25), (0, 0))
theorem mX7_isGroup : MK kX7_isGroup 1 := ⟨tm5_12 (List.mem_of_getElem? (i := 12) rfl) rfl, tm1_0 (List.mem_of_getElem? (i := 10) rfl) rfl, by decide +kernel, by decide +kernel, by decide +kernel⟩
theorem sX7_isGroup : Cond.static yX7_isGroup ∈ gdT := tm5_12 (List.mem_of_getElem? (i := 11) rfl) rfl
abbrev kX7_isKey : Kd := (yX7_isKey, cX7_isKey, 1, some .boolean, (1, 25), (0, 0))
theorem mX7_isKey : MK kX7_isKey 1 := ⟨tm5_5 (List.mem_of_getElem? (i := 14) rfl) rfl, tm1_0 (List.mem_of_getElem? (i := 10) rfl) rfl, by decide +kernel, by decide +kernel, by decide +kernel⟩
theorem sX7_isKey : Cond.static yX7_isKey ∈ gdT := tm5_5 (List.mem_of_getElem? (i := 13) rfl) rfl
abbrev kX7_isOutdated : Kd := (yX7_isOutdated, cX7_isOutdated, 3, some .boolean, (2, 44), (0, 0))
theorem mX7_isOutdated : MK kX7_isOutdated 2 := ⟨tm6_1 (List.mem_of_getElem? (i := 2) rfl) rfl, tm1_0 (List.mem_of_getElem? (i := 10) rfl) rfl, by decide +kernel, by decide +kernel, by decide +kernel⟩
theorem iX7_isOutdated : Cond.instanceMethod yX7_isOutdated ∈ gdT := tm6_1 (List.mem_of_getElem? (i := 1) rfl) rfl
theorem vX7_isOutdated : Cond.selects RX7 yX7_isOutdated yX7_isOutdated ∈ gdT := tp (i := 55) (by decide +kernel) rfl
abbrev kX7_isRegion : Kd := (yX7_isRegion, cX7_isRegion, 1, some .boolean, (1, 25), (0, 0))
theorem mX7_isRegion : MK kX7_isRegion 1 := ⟨tm5_11 (List.mem_of_getElem? (i := 11) rfl) rfl, tm1_0 (List.mem_of_getElem? (i := 10) rfl) rfl, by decide +kernel, by decide +kernel, by decide +kernel⟩
theorem sX7_isRegion : Cond.static yX7_isRegion ∈ gdT := tm5_11 (List.mem_of_getElem? (i := 10) rfl) rfl
abbrev kX7_isShelf : Kd := (yX7_isShelf, cX7_isShelf, 1, some .boolean, (1, 25), (0, 0))
theorem mX7_isShelf : MK kX7_isShelf 1 := ⟨tm6_10 (List.mem_of_getElem? (i := 0) rfl) rfl, tm1_0 (List.mem_of_getElem? (i := 10) rfl) rfl, by decide +kernel, by decide +kernel, by decide +kernel⟩
theorem sX7_isShelf : Cond.static yX7_isShelf ∈ gdT := tm6_9 (List.mem_of_getElem? (i := 15) rfl) rfl
abbrev kX7_isThere : Kd := (yX7_isThere, cX7_isThere, 2, some .boolean, (0, 0), (0, 0))
theorem mX7_isThere : MK kX7_isThere 1 := ⟨tm5_6 (List.mem_of_getElem? (i := 14) rfl) rfl, tm1_0 (List.mem_of_getElem? (i := 10) rfl) rfl, by decide +kernel, by decide +kernel, by decide +kernel⟩
theorem iX7_isThere : Cond.instanceMethod yX7_isThere ∈ gdT := tm5_6 (List.mem_of_getElem? (i := 13) rfl) rfl
theorem vX7_isThere : Cond.selects RX7 yX7_isThere yX7_isThere ∈ gdT := tp (i := 40) (by decide +kernel) rfl
abbrev kX7_judges : Kd := (yX7_judges, cX7_judges, 5, none, (4, 89), (0, 0))
theorem mX7_judges : MK kX7_judges 2 := ⟨tm6_7 (List.mem_of_getElem? (i := 6) rfl) rfl, tm1_0 (List.mem_of_getElem? (i := 10) rfl) rfl, by decide +kernel, by decide +kernel, by decide +kernel⟩
theorem iX7_judges : Cond.instanceMethod yX7_judges ∈ gdT := tm6_7 (List.mem_of_getElem? (i := 5) rfl) rfl
theorem vX7_judges : Cond.selects RX7 yX7_judges yX7_judges ∈ gdT := tp (i := 67) (by decide +kernel) rfl
abbrev kX7_keyOf : Kd := (yX7_keyOf, cX7_keyOf, 2, some .int, (0, 0), (0, 0))
theorem mX7_keyOf : MK kX7_keyOf 1 := ⟨tm5_8 (List.mem_of_getElem? (i := 12) rfl) rfl, tm1_0 (List.mem_of_getElem? (i := 10) rfl) rfl, by decide +kernel, by decide +kernel, by decide +kernel⟩
theorem iX7_keyOf : Cond.instanceMethod yX7_keyOf ∈ gdT := tm5_8 (List.mem_of_getElem? (i := 11) rfl) rfl
theorem vX7_keyOf : Cond.selects RX7 yX7_keyOf yX7_keyOf ∈ gdT := tp (i := 45) (by decide +kernel) rfl
abbrev kX7_lag : Kd := (yX7_lag, cX7_lag, 5, some .int, (2, 45), (0, 0))
theorem mX7_lag : MK kX7_lag 2 := ⟨tm6_1 (List.mem_of_getElem? (i := 6) rfl) rfl, tm1_0 (List.mem_of_getElem? (i := 10) rfl) rfl, by decide +kernel, by decide +kernel, by decide +kernel⟩
theorem iX7_lag : Cond.instanceMethod yX7_lag ∈ gdT := tm6_1 (List.mem_of_getElem? (i := 4) rfl) rfl
theorem vX7_lag : Cond.selects RX7 yX7_lag yX7_lag ∈ gdT := tm6_1 (List.mem_of_getElem? (i := 5) rfl) rfl
abbrev kX7_lastOf : Kd := (yX7_lastOf, cX7_lastOf, 4, some .int, (1, 21), (0, 0))
theorem mX7_lastOf : MK kX7_lastOf 2 := ⟨tm5_8 (List.mem_of_getElem? (i := 8) rfl) rfl, tm1_0 (List.mem_of_getElem? (i := 10) rfl) rfl, by decide +kernel, by decide +kernel, by decide +kernel⟩
theorem iX7_lastOf : Cond.instanceMethod yX7_lastOf ∈ gdT := tm5_8 (List.mem_of_getElem? (i := 7) rfl) rfl
theorem vX7_lastOf : Cond.selects RX7 yX7_lastOf yX7_lastOf ∈ gdT := tp (i := 44) (by decide +kernel) rfl
abbrev kX7_leaseAt : Kd := (yX7_leaseAt, cX7_leaseAt, 2, some .int, (0, 0), (0, 0))
theorem mX7_leaseAt : MK kX7_leaseAt 2 := ⟨tm5_7 (List.mem_of_getElem? (i := 1) rfl) rfl, tm1_0 (List.mem_of_getElem? (i := 10) rfl) rfl, by decide +kernel, by decide +kernel, by decide +kernel⟩
theorem sX7_leaseAt : Cond.static yX7_leaseAt ∈ gdT := tm5_7 (List.mem_of_getElem? (i := 0) rfl) rfl
abbrev kX7_least : Kd := (yX7_least, cX7_least, 4, some .int, (2, 46), (0, 0))
theorem mX7_least : MK kX7_least 2 := ⟨tm6_0 (List.mem_of_getElem? (i := 9) rfl) rfl, tm1_0 (List.mem_of_getElem? (i := 10) rfl) rfl, by decide +kernel, by decide +kernel, by decide +kernel⟩
theorem iX7_least : Cond.instanceMethod yX7_least ∈ gdT := tm6_0 (List.mem_of_getElem? (i := 7) rfl) rfl
theorem vX7_least : Cond.selects RX7 yX7_least yX7_least ∈ gdT := tm6_0 (List.mem_of_getElem? (i := 8) rfl) rfl
abbrev kX7_leastIn : Kd := (yX7_leastIn, cX7_leastIn, 6, some .int, (1, 21), (0, 0))
theorem mX7_leastIn : MK kX7_leastIn 2 := ⟨tm5_10 (List.mem_of_getElem? (i := 7) rfl) rfl, tm1_0 (List.mem_of_getElem? (i := 10) rfl) rfl, by decide +kernel, by decide +kernel, by decide +kernel⟩
theorem iX7_leastIn : Cond.instanceMethod yX7_leastIn ∈ gdT := tm5_10 (List.mem_of_getElem? (i := 6) rfl) rfl
theorem vX7_leastIn : Cond.selects RX7 yX7_leastIn yX7_leastIn ∈ gdT := tp (i := 50) (by decide +kernel) rfl
abbrev kX7_led : Kd := (yX7_led, cX7_led, 2, some .int, (1, 25), (0, 0))
theorem mX7_led : MK kX7_led 1 := ⟨tm6_3 (List.mem_of_getElem? (i := 5) rfl) rfl, tm1_0 (List.mem_of_getElem? (i := 10) rfl) rfl, by decide +kernel, by decide +kernel, by decide +kernel⟩
theorem iX7_led : Cond.instanceMethod yX7_led ∈ gdT := tm6_3 (List.mem_of_getElem? (i := 3) rfl) rfl
theorem vX7_led : Cond.selects RX7 yX7_led yX7_led ∈ gdT := tm6_3 (List.mem_of_getElem? (i := 4) rfl) rfl
abbrev kX7_loads : Kd := (yX7_loads, cX7_loads, 1, some .int, (0, 0), (0, 0))
theorem mX7_loads : MK kX7_loads 0 := ⟨tm6_6 (List.mem_of_getElem? (i := 14) rfl) rfl, tm1_0 (List.mem_of_getElem? (i := 10) rfl) rfl, by decide +kernel, by decide +kernel, by decide +kernel⟩
theorem iX7_loads : Cond.instanceMethod yX7_loads ∈ gdT := tm6_6 (List.mem_of_getElem? (i := 13) rfl) rfl
theorem vX7_loads : Cond.selects RX7 yX7_loads yX7_loads ∈ gdT := tp (i := 65) (by decide +kernel) rfl
abbrev kX7_look : Kd := (yX7_look, cX7_look, 2, some .int, (4, 94), (0, 0))
theorem mX7_look : MK kX7_look 1 := ⟨tm5_7 (List.mem_of_getElem? (i := 12) rfl) rfl, tm1_0 (List.mem_of_getElem? (i := 10) rfl) rfl, by decide +kernel, by decide +kernel, by decide +kernel⟩
theorem iX7_look : Cond.instanceMethod yX7_look ∈ gdT := tm5_7 (List.mem_of_getElem? (i := 10) rfl) rfl
theorem vX7_look : Cond.selects RX7 yX7_look yX7_look ∈ gdT := tm5_7 (List.mem_of_getElem? (i := 11) rfl) rfl
abbrev kX7_lookAtRow : Kd := (yX7_lookAtRow, cX7_lookAtRow, 2, some .int, (2, 45), (0, 0))
theorem mX7_lookAtRow : MK kX7_lookAtRow 1 := ⟨tm6_9 (List.mem_of_getElem? (i := 13) rfl) rfl, tm1_0 (List.mem_of_getElem? (i := 10) rfl) rfl, by decide +kernel, by decide +kernel, by decide +kernel⟩
theorem iX7_lookAtRow : Cond.instanceMethod yX7_lookAtRow ∈ gdT := tm6_9 (List.mem_of_getElem? (i := 12) rfl) rfl
theorem vX7_lookAtRow : Cond.selects RX7 yX7_lookAtRow yX7_lookAtRow ∈ gdT := tp (i := 71) (by decide +kernel) rfl
abbrev kX7_next : Kd := (yX7_next, cX7_next, 3, some .int, (3, 75), (0, 0))
theorem mX7_next : MK kX7_next 0 := ⟨tm6_2 (List.mem_of_getElem? (i := 13) rfl) rfl, tm1_0 (List.mem_of_getElem? (i := 10) rfl) rfl, by decide +kernel, by decide +kernel, by decide +kernel⟩
theorem iX7_next : Cond.instanceMethod yX7_next ∈ gdT := tm6_2 (List.mem_of_getElem? (i := 11) rfl) rfl
theorem vX7_next : Cond.selects RX7 yX7_next yX7_next ∈ gdT := tm6_2 (List.mem_of_getElem? (i := 12) rfl) rfl
abbrev kX7_nextOf : Kd := (yX7_nextOf, cX7_nextOf, 5, some .int, (1, 25), (0, 0))
theorem mX7_nextOf : MK kX7_nextOf 3 := ⟨tm6_11 (List.mem_of_getElem? (i := 0) rfl) rfl, tm1_0 (List.mem_of_getElem? (i := 10) rfl) rfl, by decide +kernel, by decide +kernel, by decide +kernel⟩
theorem iX7_nextOf : Cond.instanceMethod yX7_nextOf ∈ gdT := tm6_10 (List.mem_of_getElem? (i := 15) rfl) rfl
theorem vX7_nextOf : Cond.selects RX7 yX7_nextOf yX7_nextOf ∈ gdT := tp (i := 73) (by decide +kernel) rfl
abbrev kX7_nextOrder : Kd := (yX7_nextOrder, cX7_nextOrder, 6, some .boolean, (0, 0), (0, 0))
theorem mX7_nextOrder : MK kX7_nextOrder 0 := ⟨tm6_7 (List.mem_of_getElem? (i := 13) rfl) rfl, tm1_0 (List.mem_of_getElem? (i := 10) rfl) rfl, by decide +kernel, by decide +kernel, by decide +kernel⟩
theorem iX7_nextOrder : Cond.instanceMethod yX7_nextOrder ∈ gdT := tm6_7 (List.mem_of_getElem? (i := 12) rfl) rfl
theorem vX7_nextOrder : Cond.selects RX7 yX7_nextOrder yX7_nextOrder ∈ gdT := tp (i := 68) (by decide +kernel) rfl
abbrev kX7_number : Kd := (yX7_number, cX7_number, 5, some .int, (2, 45), (0, 0))
theorem mX7_number : MK kX7_number 2 := ⟨tm6_5 (List.mem_of_getElem? (i := 1) rfl) rfl, tm1_0 (List.mem_of_getElem? (i := 10) rfl) rfl, by decide +kernel, by decide +kernel, by decide +kernel⟩
theorem iX7_number : Cond.instanceMethod yX7_number ∈ gdT := tm6_5 (List.mem_of_getElem? (i := 0) rfl) rfl
theorem vX7_number : Cond.selects RX7 yX7_number yX7_number ∈ gdT := tp (i := 60) (by decide +kernel) rfl
abbrev kX7_oldAt : Kd := (yX7_oldAt, cX7_oldAt, 2, some .int, (0, 0), (0, 0))
theorem mX7_oldAt : MK kX7_oldAt 2 := ⟨tm5_7 (List.mem_of_getElem? (i := 4) rfl) rfl, tm1_0 (List.mem_of_getElem? (i := 10) rfl) rfl, by decide +kernel, by decide +kernel, by decide +kernel⟩
theorem sX7_oldAt : Cond.static yX7_oldAt ∈ gdT := tm5_7 (List.mem_of_getElem? (i := 3) rfl) rfl
abbrev kX7_orders : Kd := (yX7_orders, cX7_orders, 5, some .int, (6, 147), (0, 0))
theorem mX7_orders : MK kX7_orders 3 := ⟨tm6_5 (List.mem_of_getElem? (i := 11) rfl) rfl, tm1_0 (List.mem_of_getElem? (i := 10) rfl) rfl, by decide +kernel, by decide +kernel, by decide +kernel⟩
theorem iX7_orders : Cond.instanceMethod yX7_orders ∈ gdT := tm6_5 (List.mem_of_getElem? (i := 9) rfl) rfl
theorem vX7_orders : Cond.selects RX7 yX7_orders yX7_orders ∈ gdT := tm6_5 (List.mem_of_getElem? (i := 10) rfl) rfl
abbrev kX7_outdated : Kd := (yX7_outdated, cX7_outdated, 4, some .int, (3, 66), (0, 0))
theorem mX7_outdated : MK kX7_outdated 1 := ⟨tm6_0 (List.mem_of_getElem? (i := 14) rfl) rfl, tm1_0 (List.mem_of_getElem? (i := 10) rfl) rfl, by decide +kernel, by decide +kernel, by decide +kernel⟩
theorem iX7_outdated : Cond.instanceMethod yX7_outdated ∈ gdT := tm6_0 (List.mem_of_getElem? (i := 12) rfl) rfl
theorem vX7_outdated : Cond.selects RX7 yX7_outdated yX7_outdated ∈ gdT := tm6_0 (List.mem_of_getElem? (i := 13) rfl) rfl
abbrev kX7_own : Kd := (yX7_own, cX7_own, 5, some .int, (2, 45), (0, 0))
theorem mX7_own : MK kX7_own 2 := ⟨tm6_1 (List.mem_of_getElem? (i := 10) rfl) rfl, tm1_0 (List.mem_of_getElem? (i := 10) rfl) rfl, by decide +kernel, by decide +kernel, by decide +kernel⟩
theorem iX7_own : Cond.instanceMethod yX7_own ∈ gdT := tm6_1 (List.mem_of_getElem? (i := 8) rfl) rfl
theorem vX7_own : Cond.selects RX7 yX7_own yX7_own ∈ gdT := tm6_1 (List.mem_of_getElem? (i := 9) rfl) rfl
abbrev kX7_plan : Kd := (yX7_plan, cX7_plan, 4, some .int, (4, 95), (0, 0))
theorem mX7_plan : MK kX7_plan 1 := ⟨tm6_3 (List.mem_of_getElem? (i := 14) rfl) rfl, tm1_0 (List.mem_of_getElem? (i := 10) rfl) rfl, by decide +kernel, by decide +kernel, by decide +kernel⟩
theorem iX7_plan : Cond.instanceMethod yX7_plan ∈ gdT := tm6_3 (List.mem_of_getElem? (i := 12) rfl) rfl
theorem vX7_plan : Cond.selects RX7 yX7_plan yX7_plan ∈ gdT := tm6_3 (List.mem_of_getElem? (i := 13) rfl) rfl
abbrev kX7_put : Kd := (yX7_put, cX7_put, 6, some .int, (3, 67), (0, 0))
theorem mX7_put : MK kX7_put 3 := ⟨tm6_11 (List.mem_of_getElem? (i := 8) rfl) rfl, tm1_0 (List.mem_of_getElem? (i := 10) rfl) rfl, by decide +kernel, by decide +kernel, by decide +kernel⟩
theorem iX7_put : Cond.instanceMethod yX7_put ∈ gdT := tm6_11 (List.mem_of_getElem? (i := 6) rfl) rfl
theorem vX7_put : Cond.selects RX7 yX7_put yX7_put ∈ gdT := tm6_11 (List.mem_of_getElem? (i := 7) rfl) rfl
abbrev kX7_readsAct : Kd := (yX7_readsAct, cX7_readsAct, 7, none, (3, 69), (0, 0))
theorem mX7_readsAct : MK kX7_readsAct 1 := ⟨tm6_4 (List.mem_of_getElem? (i := 6) rfl) rfl, tm1_0 (List.mem_of_getElem? (i := 10) rfl) rfl, by decide +kernel, by decide +kernel, by decide +kernel⟩
theorem iX7_readsAct : Cond.instanceMethod yX7_readsAct ∈ gdT := tm6_4 (List.mem_of_getElem? (i := 5) rfl) rfl
theorem vX7_readsAct : Cond.selects RX7 yX7_readsAct yX7_readsAct ∈ gdT := tp (i := 58) (by decide +kernel) rfl
abbrev kX7_redo : Kd := (yX7_redo, cX7_redo, 1, some .int, (1, 20), (0, 0))
theorem mX7_redo : MK kX7_redo 0 := ⟨tm5_5 (List.mem_of_getElem? (i := 0) rfl) rfl, tm1_0 (List.mem_of_getElem? (i := 10) rfl) rfl, by decide +kernel, by decide +kernel, by decide +kernel⟩
theorem iX7_redo : Cond.instanceMethod yX7_redo ∈ gdT := tm5_4 (List.mem_of_getElem? (i := 14) rfl) rfl
theorem vX7_redo : Cond.selects RX7 yX7_redo yX7_redo ∈ gdT := tm5_4 (List.mem_of_getElem? (i := 15) rfl) rfl
abbrev kX7_refusal : Kd := (yX7_refusal, cX7_refusal, 3, some .int, (2, 45), (0, 0))
theorem mX7_refusal : MK kX7_refusal 2 := ⟨tm6_11 (List.mem_of_getElem? (i := 12) rfl) rfl, tm1_0 (List.mem_of_getElem? (i := 10) rfl) rfl, by decide +kernel, by decide +kernel, by decide +kernel⟩
theorem iX7_refusal : Cond.instanceMethod yX7_refusal ∈ gdT := tm6_11 (List.mem_of_getElem? (i := 11) rfl) rfl
theorem vX7_refusal : Cond.selects RX7 yX7_refusal yX7_refusal ∈ gdT := tp (i := 74) (by decide +kernel) rfl
abbrev kX7_region : Kd := (yX7_region, cX7_region, 3, some .int, (2, 45), (0, 0))
theorem mX7_region : MK kX7_region 2 := ⟨tm6_0 (List.mem_of_getElem? (i := 1) rfl) rfl, tm1_0 (List.mem_of_getElem? (i := 10) rfl) rfl, by decide +kernel, by decide +kernel, by decide +kernel⟩
theorem iX7_region : Cond.instanceMethod yX7_region ∈ gdT := tm5_14 (List.mem_of_getElem? (i := 15) rfl) rfl
theorem vX7_region : Cond.selects RX7 yX7_region yX7_region ∈ gdT := tm6_0 (List.mem_of_getElem? (i := 0) rfl) rfl
abbrev kX7_restore : Kd := (yX7_restore, cX7_restore, 6, some .int, (4, 100), (0, 0))
theorem mX7_restore : MK kX7_restore 4 := ⟨tm6_12 (List.mem_of_getElem? (i := 10) rfl) rfl, tm1_0 (List.mem_of_getElem? (i := 10) rfl) rfl, by decide +kernel, by decide +kernel, by decide +kernel⟩
theorem iX7_restore : Cond.instanceMethod yX7_restore ∈ gdT := tm6_12 (List.mem_of_getElem? (i := 8) rfl) rfl
theorem vX7_restore : Cond.selects RX7 yX7_restore yX7_restore ∈ gdT := tm6_12 (List.mem_of_getElem? (i := 9) rfl) rfl
abbrev kX7_restores : Kd := (yX7_restores, cX7_restores, 10, some .boolean, (3, 71), (0, 0))
theorem mX7_restores : MK kX7_restores 2 := ⟨tm6_12 (List.mem_of_getElem? (i := 14) rfl) rfl, tm1_0 (List.mem_of_getElem? (i := 10) rfl) rfl, by decide +kernel, by decide +kernel, by decide +kernel⟩
theorem iX7_restores : Cond.instanceMethod yX7_restores ∈ gdT := tm6_12 (List.mem_of_getElem? (i := 13) rfl) rfl
theorem vX7_restores : Cond.selects RX7 yX7_restores yX7_restores ∈ gdT := tp (i := 75) (by decide +kernel) rfl
abbrev kX7_row : Kd := (yX7_row, cX7_row, 4, some .int, (2, 45), (0, 0))
theorem mX7_row : MK kX7_row 2 := ⟨tm6_11 (List.mem_of_getElem? (i := 4) rfl) rfl, tm1_0 (List.mem_of_getElem? (i := 10) rfl) rfl, by decide +kernel, by decide +kernel, by decide +kernel⟩
theorem iX7_row : Cond.instanceMethod yX7_row ∈ gdT := tm6_11 (List.mem_of_getElem? (i := 2) rfl) rfl
theorem vX7_row : Cond.selects RX7 yX7_row yX7_row ∈ gdT := tm6_11 (List.mem_of_getElem? (i := 3) rfl) rfl
abbrev kX7_save : Kd := (yX7_save, cX7_save, 8, some .int, (2, 45), (0, 0))
theorem mX7_save : MK kX7_save 3 := ⟨tm6_12 (List.mem_of_getElem? (i := 5) rfl) rfl, tm1_0 (List.mem_of_getElem? (i := 10) rfl) rfl, by decide +kernel, by decide +kernel, by decide +kernel⟩
theorem iX7_save : Cond.instanceMethod yX7_save ∈ gdT := tm6_12 (List.mem_of_getElem? (i := 3) rfl) rfl
theorem vX7_save : Cond.selects RX7 yX7_save yX7_save ∈ gdT := tm6_12 (List.mem_of_getElem? (i := 4) rfl) rfl
abbrev kX7_set : Kd := (yX7_set, cX7_set, 6, some .int, (2, 41), (0, 0))
theorem mX7_set : MK kX7_set 2 := ⟨tm5_13 (List.mem_of_getElem? (i := 8) rfl) rfl, tm1_0 (List.mem_of_getElem? (i := 10) rfl) rfl, by decide +kernel, by decide +kernel, by decide +kernel⟩
theorem iX7_set : Cond.instanceMethod yX7_set ∈ gdT := tm5_13 (List.mem_of_getElem? (i := 6) rfl) rfl
theorem vX7_set : Cond.selects RX7 yX7_set yX7_set ∈ gdT := tm5_13 (List.mem_of_getElem? (i := 7) rfl) rfl
abbrev kX7_setting : Kd := (yX7_setting, cX7_setting, 2, some .int, (1, 25), (0, 0))
theorem mX7_setting : MK kX7_setting 1 := ⟨tm5_13 (List.mem_of_getElem? (i := 13) rfl) rfl, tm1_0 (List.mem_of_getElem? (i := 10) rfl) rfl, by decide +kernel, by decide +kernel, by decide +kernel⟩
theorem iX7_setting : Cond.instanceMethod yX7_setting ∈ gdT := tm5_13 (List.mem_of_getElem? (i := 11) rfl) rfl
theorem vX7_setting : Cond.selects RX7 yX7_setting yX7_setting ∈ gdT := tm5_13 (List.mem_of_getElem? (i := 12) rfl) rfl
abbrev kX7_settled : Kd := (yX7_settled, cX7_settled, 4, some .int, (4, 89), (0, 0))
theorem mX7_settled : MK kX7_settled 1 := ⟨tm6_9 (List.mem_of_getElem? (i := 1) rfl) rfl, tm1_0 (List.mem_of_getElem? (i := 10) rfl) rfl, by decide +kernel, by decide +kernel, by decide +kernel⟩
theorem iX7_settled : Cond.instanceMethod yX7_settled ∈ gdT := tm6_8 (List.mem_of_getElem? (i := 15) rfl) rfl
theorem vX7_settled : Cond.selects RX7 yX7_settled yX7_settled ∈ gdT := tm6_9 (List.mem_of_getElem? (i := 0) rfl) rfl
abbrev kX7_startOf : Kd := (yX7_startOf, cX7_startOf, 3, some .int, (1, 21), (0, 0))
theorem mX7_startOf : MK kX7_startOf 3 := ⟨tm6_2 (List.mem_of_getElem? (i := 6) rfl) rfl, tm1_0 (List.mem_of_getElem? (i := 10) rfl) rfl, by decide +kernel, by decide +kernel, by decide +kernel⟩
theorem sX7_startOf : Cond.static yX7_startOf ∈ gdT := tm6_2 (List.mem_of_getElem? (i := 5) rfl) rfl
abbrev kX7_store : Kd := (yX7_store, cX7_store, 5, some .int, (3, 66), (0, 0))
theorem mX7_store : MK kX7_store 3 := ⟨tm5_14 (List.mem_of_getElem? (i := 13) rfl) rfl, tm1_0 (List.mem_of_getElem? (i := 10) rfl) rfl, by decide +kernel, by decide +kernel, by decide +kernel⟩
theorem iX7_store : Cond.instanceMethod yX7_store ∈ gdT := tm5_14 (List.mem_of_getElem? (i := 11) rfl) rfl
theorem vX7_store : Cond.selects RX7 yX7_store yX7_store ∈ gdT := tm5_14 (List.mem_of_getElem? (i := 12) rfl) rfl
abbrev kX7_storeVersion : Kd := (yX7_storeVersion, cX7_storeVersion, 3, some .int, (2, 44), (0, 0))
theorem mX7_storeVersion : MK kX7_storeVersion 2 := ⟨tm5_8 (List.mem_of_getElem? (i := 4) rfl) rfl, tm1_0 (List.mem_of_getElem? (i := 10) rfl) rfl, by decide +kernel, by decide +kernel, by decide +kernel⟩
theorem iX7_storeVersion : Cond.instanceMethod yX7_storeVersion ∈ gdT := tm5_8 (List.mem_of_getElem? (i := 3) rfl) rfl
theorem vX7_storeVersion : Cond.selects RX7 yX7_storeVersion yX7_storeVersion ∈ gdT := tp (i := 43) (by decide +kernel) rfl
abbrev kX7_storm : Kd := (yX7_storm, cX7_storm, 10, some .int, (5, 122), (0, 0))
theorem mX7_storm : MK kX7_storm 4 := ⟨tm6_8 (List.mem_of_getElem? (i := 5) rfl) rfl, tm1_0 (List.mem_of_getElem? (i := 10) rfl) rfl, by decide +kernel, by decide +kernel, by decide +kernel⟩
theorem iX7_storm : Cond.instanceMethod yX7_storm ∈ gdT := tm6_8 (List.mem_of_getElem? (i := 3) rfl) rfl
theorem vX7_storm : Cond.selects RX7 yX7_storm yX7_storm ∈ gdT := tm6_8 (List.mem_of_getElem? (i := 4) rfl) rfl
abbrev kX7_stormRound : Kd := (yX7_stormRound, cX7_stormRound, 6, none, (4, 97), (0, 0))
theorem mX7_stormRound : MK kX7_stormRound 3 := ⟨tm6_8 (List.mem_of_getElem? (i := 13) rfl) rfl, tm1_0 (List.mem_of_getElem? (i := 10) rfl) rfl, by decide +kernel, by decide +kernel, by decide +kernel⟩
theorem iX7_stormRound : Cond.instanceMethod yX7_stormRound ∈ gdT := tm6_8 (List.mem_of_getElem? (i := 12) rfl) rfl
theorem vX7_stormRound : Cond.selects RX7 yX7_stormRound yX7_stormRound ∈ gdT := tp (i := 70) (by decide +kernel) rfl
abbrev kX7_tick : Kd := (yX7_tick, cX7_tick, 2, some .int, (2, 41), (0, 0))
theorem mX7_tick : MK kX7_tick 1 := ⟨tm5_12 (List.mem_of_getElem? (i := 4) rfl) rfl, tm1_0 (List.mem_of_getElem? (i := 10) rfl) rfl, by decide +kernel, by decide +kernel, by decide +kernel⟩
theorem iX7_tick : Cond.instanceMethod yX7_tick ∈ gdT := tm5_12 (List.mem_of_getElem? (i := 2) rfl) rfl
theorem vX7_tick : Cond.selects RX7 yX7_tick yX7_tick ∈ gdT := tm5_12 (List.mem_of_getElem? (i := 3) rfl) rfl
abbrev kX7_told : Kd := (yX7_told, cX7_told, 2, some .int, (1, 20), (0, 0))
theorem mX7_told : MK kX7_told 1 := ⟨tm5_7 (List.mem_of_getElem? (i := 8) rfl) rfl, tm1_0 (List.mem_of_getElem? (i := 10) rfl) rfl, by decide +kernel, by decide +kernel, by decide +kernel⟩
theorem iX7_told : Cond.instanceMethod yX7_told ∈ gdT := tm5_7 (List.mem_of_getElem? (i := 7) rfl) rfl
theorem vX7_told : Cond.selects RX7 yX7_told yX7_told ∈ gdT := tp (i := 41) (by decide +kernel) rfl
abbrev kX7_tried : Kd := (yX7_tried, cX7_tried, 4, some .int, (4, 99), (0, 0))
theorem mX7_tried : MK kX7_tried 3 := ⟨tm6_9 (List.mem_of_getElem? (i := 9) rfl) rfl, tm1_0 (List.mem_of_getElem? (i := 10) rfl) rfl, by decide +kernel, by decide +kernel, by decide +kernel⟩
theorem iX7_tried : Cond.instanceMethod yX7_tried ∈ gdT := tm6_9 (List.mem_of_getElem? (i := 7) rfl) rfl
theorem vX7_tried : Cond.selects RX7 yX7_tried yX7_tried ∈ gdT := tm6_9 (List.mem_of_getElem? (i := 8) rfl) rfl
abbrev kX7_undo : Kd := (yX7_undo, cX7_undo, 1, some .int, (1, 20), (0, 0))
theorem mX7_undo : MK kX7_undo 0 := ⟨tm5_4 (List.mem_of_getElem? (i := 12) rfl) rfl, tm1_0 (List.mem_of_getElem? (i := 10) rfl) rfl, by decide +kernel, by decide +kernel, by decide +kernel⟩
theorem iX7_undo : Cond.instanceMethod yX7_undo ∈ gdT := tm5_4 (List.mem_of_getElem? (i := 10) rfl) rfl
theorem vX7_undo : Cond.selects RX7 yX7_undo yX7_undo ∈ gdT := tm5_4 (List.mem_of_getElem? (i := 11) rfl) rfl
abbrev kX7_valueOf : Kd := (yX7_valueOf, cX7_valueOf, 2, some .int, (0, 0), (0, 0))
theorem mX7_valueOf : MK kX7_valueOf 1 := ⟨tm5_9 (List.mem_of_getElem? (i := 0) rfl) rfl, tm1_0 (List.mem_of_getElem? (i := 10) rfl) rfl, by decide +kernel, by decide +kernel, by decide +kernel⟩
theorem iX7_valueOf : Cond.instanceMethod yX7_valueOf ∈ gdT := tm5_8 (List.mem_of_getElem? (i := 15) rfl) rfl
theorem vX7_valueOf : Cond.selects RX7 yX7_valueOf yX7_valueOf ∈ gdT := tp (i := 46) (by decide +kernel) rfl
abbrev kX7_within : Kd := (yX7_within, cX7_within, 5, some .int, (2, 45), (0, 0))
theorem mX7_within : MK kX7_within 3 := ⟨tm6_0 (List.mem_of_getElem? (i := 5) rfl) rfl, tm1_0 (List.mem_of_getElem? (i := 10) rfl) rfl, by decide +kernel, by decide +kernel, by decide +kernel⟩
theorem iX7_within : Cond.instanceMethod yX7_within ∈ gdT := tm6_0 (List.mem_of_getElem? (i := 3) rfl) rfl
theorem vX7_within : Cond.selects RX7 yX7_within yX7_within ∈ gdT := tm6_0 (List.mem_of_getElem? (i := 4) rfl) rfl
abbrev kX7_witness : Kd := (yX7_witness, cX7_witness, 4, some .int, (6, 147), (0, 0))
theorem mX7_witness : MK kX7_witness 2 := ⟨tm6_8 (List.mem_of_getElem? (i := 1) rfl) rfl, tm1_0 (List.mem_of_getElem? (i := 10) rfl) rfl, by decide +kernel, by decide +kernel, by decide +kernel⟩
theorem iX7_witness : Cond.instanceMethod yX7_witness ∈ gdT := tm6_7 (List.mem_of_getElem? (i := 15) rfl) rfl
theorem vX7_witness : Cond.selects RX7 yX7_witness yX7_witness ∈ gdT := tm6_8 (List.mem_of_getElem? (i := 0) rfl) rfl
abbrev kX7_word : Kd := (yX7_word, cX7_word, 4, some .long, (1, 25), (0, 0))
theorem mX7_word : MK kX7_word 0 := ⟨tm6_4 (List.mem_of_getElem? (i := 10) rfl) rfl, tm1_0 (List.mem_of_getElem? (i := 10) rfl) rfl, by decide +kernel, by decide +kernel, by decide +kernel⟩
theorem iX7_word : Cond.instanceMethod yX7_word ∈ gdT := tm6_4 (List.mem_of_getElem? (i := 9) rfl) rfl
theorem vX7_word : Cond.selects RX7 yX7_word yX7_word ∈ gdT := tp (i := 59) (by decide +kernel) rfl
abbrev kX7_write : Kd := (yX7_write, cX7_write, 4, some .int, (3, 68), (0, 0))
theorem mX7_write : MK kX7_write 3 := ⟨tm5_10 (List.mem_of_getElem? (i := 11) rfl) rfl, tm1_0 (List.mem_of_getElem? (i := 10) rfl) rfl, by decide +kernel, by decide +kernel, by decide +kernel⟩
theorem iX7_write : Cond.instanceMethod yX7_write ∈ gdT := tm5_10 (List.mem_of_getElem? (i := 9) rfl) rfl
theorem vX7_write : Cond.selects RX7 yX7_write yX7_write ∈ gdT := tm5_10 (List.mem_of_getElem? (i := 10) rfl) rfl
abbrev kX7_wrong : Kd := (yX7_wrong, cX7_wrong, 2, none, (0, 0), (0, 0))
theorem mX7_wrong : MK kX7_wrong 1 := ⟨tm6_4 (List.mem_of_getElem? (i := 2) rfl) rfl, tm1_0 (List.mem_of_getElem? (i := 10) rfl) rfl, by decide +kernel, by decide +kernel, by decide +kernel⟩
theorem iX7_wrong : Cond.instanceMethod yX7_wrong ∈ gdT := tm6_4 (List.mem_of_getElem? (i := 1) rfl) rfl
theorem vX7_wrong : Cond.selects RX7 yX7_wrong yX7_wrong ∈ gdT := tp (i := 57) (by decide +kernel) rfl
theorem lX6_1 : Cond.methodLink RX6 1 objectInit ∈ gdT := tm1_1 (List.mem_of_getElem? (i := 7) rfl) rfl
theorem lX6_9 : Cond.methodLink RX6 9 yX5_init ∈ gdT := tm1_1 (List.mem_of_getElem? (i := 12) rfl) rfl
theorem lX6_21 : Cond.methodLink RX6 21 yX0_init ∈ gdT ∨ ∃ host, Cond.methodLinkNest RX6 21 yX0_init host ∈ nwT := Or.inr ⟨RX6, tn1_3 (List.mem_of_getElem? (i := 1) rfl) rfl⟩
theorem lX6_26 : Cond.methodLink RX6 26 yX0_begin ∈ gdT := tm1_4 (List.mem_of_getElem? (i := 6) rfl) rfl
theorem lX6_32 : Cond.methodLink RX6 32 yX3_init ∈ gdT := tm1_5 (List.mem_of_getElem? (i := 4) rfl) rfl
theorem lX6_40 : Cond.methodLink RX6 40 yX1_init ∈ gdT := tm1_6 (List.mem_of_getElem? (i := 10) rfl) rfl
theorem lX6_47 : Cond.methodLink RX6 47 yX4_init ∈ gdT ∨ ∃ host, Cond.methodLinkNest RX6 47 yX4_init host ∈ nwT := Or.inr ⟨RX6, tn1_9 (List.mem_of_getElem? (i := 0) rfl) rfl⟩
theorem lX6_58 : Cond.methodLink RX6 58 yX2_init ∈ gdT ∨ ∃ host, Cond.methodLinkNest RX6 58 yX2_init host ∈ nwT := Or.inr ⟨RX6, tn1_10 (List.mem_of_getElem? (i := 2) rfl) rfl⟩
theorem lX6_72 : Cond.methodLink RX6 72 yJ7_fill_53178 ∈ gdT := tm1_11 (List.mem_of_getElem? (i := 8) rfl) rfl
theorem lX6_81 : Cond.methodLink RX6 81 yX6_below ∈ gdT := tm1_14 (List.mem_of_getElem? (i := 1) rfl) rfl
theorem lX6_85 : Cond.methodLink RX6 85 yX5_obtain ∈ gdT := tm1_14 (List.mem_of_getElem? (i := 4) rfl) rfl
theorem lX6_89 : Cond.methodLink RX6 89 yX6_noted ∈ gdT := tm2_1 (List.mem_of_getElem? (i := 11) rfl) rfl
theorem lX6_93 : Cond.methodLink RX6 93 yX5_lookUp ∈ gdT := tm2_2 (List.mem_of_getElem? (i := 10) rfl) rfl
theorem lX6_96 : Cond.methodLink RX6 96 yX5_bringIn ∈ gdT := tm2_4 (List.mem_of_getElem? (i := 13) rfl) rfl
theorem lX6_99 : Cond.methodLink RX6 99 yX5_writeDown ∈ gdT := tm2_7 (List.mem_of_getElem? (i := 1) rfl) rfl
theorem lX6_103 : Cond.methodLink RX6 103 yX5_applyNext ∈ gdT := tm2_8 (List.mem_of_getElem? (i := 5) rfl) rfl
theorem lX6_106 : Cond.methodLink RX6 106 yX5_pass ∈ gdT := tm2_9 (List.mem_of_getElem? (i := 1) rfl) rfl
theorem lX6_109 : Cond.methodLink RX6 109 yX5_turn ∈ gdT := tm2_9 (List.mem_of_getElem? (i := 9) rfl) rfl
theorem lX6_112 : Cond.methodLink RX6 112 yX5_move ∈ gdT := tm2_10 (List.mem_of_getElem? (i := 1) rfl) rfl
theorem lX6_121 : Cond.methodLink RX6 121 yX5_change ∈ gdT := tm2_10 (List.mem_of_getElem? (i := 13) rfl) rfl
theorem lX6_124 : Cond.methodLink RX6 124 yX5_passToFirstDue ∈ gdT := tm2_11 (List.mem_of_getElem? (i := 5) rfl) rfl
theorem lX6_128 : Cond.methodLink RX6 128 yX0_stepBack ∈ gdT := tm2_12 (List.mem_of_getElem? (i := 7) rfl) rfl
theorem lX6_136 : Cond.methodLink RX6 136 yX0_stepOn ∈ gdT := tm2_13 (List.mem_of_getElem? (i := 7) rfl) rfl
theorem lX6_142 : Cond.methodLink RX6 142 yX5_settingOf ∈ gdT := tm2_13 (List.mem_of_getElem? (i := 15) rfl) rfl
theorem lX6_145 : Cond.methodLink RX6 145 yX5_hasEntry ∈ gdT := tm2_14 (List.mem_of_getElem? (i := 4) rfl) rfl
theorem lX6_148 : Cond.methodLink RX6 148 yX5_entryPart ∈ gdT := tm2_14 (List.mem_of_getElem? (i := 5) rfl) rfl
theorem lX6_151 : Cond.methodLink RX6 151 yX5_besidePart ∈ gdT := tm2_14 (List.mem_of_getElem? (i := 13) rfl) rfl
theorem lX6_154 : Cond.methodLink RX6 154 yX5_clientPart ∈ gdT := tm3_0 (List.mem_of_getElem? (i := 7) rfl) rfl
theorem lX6_157 : Cond.methodLink RX6 157 yX5_markerOf ∈ gdT := tm3_0 (List.mem_of_getElem? (i := 15) rfl) rfl
theorem lX6_160 : Cond.methodLink RX6 160 yX5_storeVersion ∈ gdT := tm3_1 (List.mem_of_getElem? (i := 0) rfl) rfl
theorem lX6_163 : Cond.methodLink RX6 163 yX5_valueOf ∈ gdT := tm3_1 (List.mem_of_getElem? (i := 1) rfl) rfl
theorem lX6_166 : Cond.methodLink RX6 166 yX5_placeOf ∈ gdT := tm3_1 (List.mem_of_getElem? (i := 6) rfl) rfl
theorem lX6_169 : Cond.methodLink RX6 169 yX5_writes ∈ gdT := tm3_1 (List.mem_of_getElem? (i := 7) rfl) rfl
theorem lX6_172 : Cond.methodLink RX6 172 yX5_loadsOf ∈ gdT := tm3_1 (List.mem_of_getElem? (i := 8) rfl) rfl
theorem lX6_175 : Cond.methodLink RX6 175 yX5_lastWriteUpTo ∈ gdT := tm3_2 (List.mem_of_getElem? (i := 0) rfl) rfl
theorem lX6_178 : Cond.methodLink RX6 178 yX5_leastKey ∈ gdT := tm3_2 (List.mem_of_getElem? (i := 8) rfl) rfl
theorem lX6_181 : Cond.methodLink RX6 181 yX5_outdatedKeys ∈ gdT := tm3_2 (List.mem_of_getElem? (i := 13) rfl) rfl
theorem lX6_184 : Cond.methodLink RX6 184 yX5_writesBehind ∈ gdT := tm3_3 (List.mem_of_getElem? (i := 5) rfl) rfl
theorem lX6_187 : Cond.methodLink RX6 187 yX5_groupOf ∈ gdT := tm3_3 (List.mem_of_getElem? (i := 13) rfl) rfl
theorem lX6_190 : Cond.methodLink RX6 190 yX5_lastWriteBy ∈ gdT := tm3_3 (List.mem_of_getElem? (i := 14) rfl) rfl
theorem lX6_193 : Cond.methodLink RX6 193 yX5_dueCode ∈ gdT := tm3_4 (List.mem_of_getElem? (i := 10) rfl) rfl
theorem lX6_196 : Cond.methodLink RX6 196 yX5_endOfDue ∈ gdT := tm3_4 (List.mem_of_getElem? (i := 14) rfl) rfl
theorem lX6_199 : Cond.methodLink RX6 199 yX5_kindOfDue ∈ gdT := tm3_4 (List.mem_of_getElem? (i := 15) rfl) rfl
theorem lX6_202 : Cond.methodLink RX6 202 yX5_spotOfDue ∈ gdT := tm3_5 (List.mem_of_getElem? (i := 2) rfl) rfl
theorem lX6_205 : Cond.methodLink RX6 205 yX5_hotKey ∈ gdT := tm3_5 (List.mem_of_getElem? (i := 9) rfl) rfl
theorem lX6_208 : Cond.methodLink RX6 208 yX5_ledOf ∈ gdT := tm3_6 (List.mem_of_getElem? (i := 5) rfl) rfl
theorem lX6_214 : Cond.methodLink RX6 214 yX5_copyFrom ∈ gdT := tm3_6 (List.mem_of_getElem? (i := 13) rfl) rfl
theorem lX6_218 : Cond.methodLink RX6 218 yX3_run ∈ gdT := tm3_6 (List.mem_of_getElem? (i := 14) rfl) rfl
theorem lX6_222 : Cond.methodLink RX6 222 yX3_outcome ∈ gdT := tm3_8 (List.mem_of_getElem? (i := 12) rfl) rfl
theorem lX6_225 : Cond.methodLink RX6 225 yX5_applyAll ∈ gdT := tm3_9 (List.mem_of_getElem? (i := 4) rfl) rfl
theorem lX6_228 : Cond.methodLink RX6 228 yX5_countThere ∈ gdT := tm3_9 (List.mem_of_getElem? (i := 9) rfl) rfl
theorem lX6_231 : Cond.methodLink RX6 231 yX5_outdatedGroups ∈ gdT := tm3_9 (List.mem_of_getElem? (i := 13) rfl) rfl
theorem lX6_234 : Cond.methodLink RX6 234 yX6_hitsTried ∈ gdT := tm3_10 (List.mem_of_getElem? (i := 6) rfl) rfl
theorem lX6_237 : Cond.methodLink RX6 237 yX6_keysAhead ∈ gdT := tm3_10 (List.mem_of_getElem? (i := 10) rfl) rfl
theorem lX6_240 : Cond.methodLink RX6 240 yX6_hitsForeseen ∈ gdT := tm3_11 (List.mem_of_getElem? (i := 11) rfl) rfl
theorem lX6_244 : Cond.methodLink RX6 244 yX4_append ∈ gdT := tm3_12 (List.mem_of_getElem? (i := 8) rfl) rfl
theorem lX6_251 : Cond.methodLink RX6 251 yX4_readInto ∈ gdT := tm3_13 (List.mem_of_getElem? (i := 0) rfl) rfl
theorem lX6_255 : Cond.methodLink RX6 255 yX6_arePlanners ∈ gdT := tm4_3 (List.mem_of_getElem? (i := 11) rfl) rfl
theorem lX6_258 : Cond.methodLink RX6 258 yX6_actsOf ∈ gdT := tm4_3 (List.mem_of_getElem? (i := 15) rfl) rfl
theorem lX6_261 : Cond.methodLink RX6 261 yX1_goThrough ∈ gdT := tm4_4 (List.mem_of_getElem? (i := 3) rfl) rfl
theorem lX6_265 : Cond.methodLink RX6 265 yX1_outcome ∈ gdT := tm4_7 (List.mem_of_getElem? (i := 2) rfl) rfl
theorem lX6_266 : Cond.methodLink RX6 266 yX1_witnessAt ∈ gdT := tm4_8 (List.mem_of_getElem? (i := 4) rfl) rfl
theorem lX6_269 : Cond.methodLink RX6 269 yJ7_fill_d0a16 ∈ gdT := tm4_8 (List.mem_of_getElem? (i := 12) rfl) rfl
theorem lX6_272 : Cond.methodLink RX6 272 yX6_placeRefusal ∈ gdT := tm4_9 (List.mem_of_getElem? (i := 1) rfl) rfl
theorem lX6_279 : Cond.methodLink RX6 279 yX5_entryKeys ∈ gdT := tm3_11 (List.mem_of_getElem? (i := 15) rfl) rfl
theorem lX6_282 : Cond.methodLink RX6 282 yJ6_bitCount_0f7a4 ∈ gdT := tm3_12 (List.mem_of_getElem? (i := 0) rfl) rfl
theorem lX6_287 : Cond.methodLink RX6 287 yX6_savedLong ∈ gdT := tm4_9 (List.mem_of_getElem? (i := 14) rfl) rfl
theorem lX6_291 : Cond.methodLink RX6 291 yX6_restoreOne ∈ gdT := tm4_10 (List.mem_of_getElem? (i := 7) rfl) rfl
theorem lX6_295 : Cond.methodLink RX6 295 yX5_copyTo ∈ gdT := tm4_11 (List.mem_of_getElem? (i := 5) rfl) rfl
theorem lX6_298 : Cond.methodLink RX6 298 yX5_now ∈ gdT := tm4_11 (List.mem_of_getElem? (i := 6) rfl) rfl
theorem lX6_301 : Cond.methodLink RX6 301 yX5_markers ∈ gdT := tm4_11 (List.mem_of_getElem? (i := 15) rfl) rfl
theorem lX6_304 : Cond.methodLink RX6 304 yX5_hands ∈ gdT := tm4_12 (List.mem_of_getElem? (i := 3) rfl) rfl
theorem lX6_307 : Cond.methodLink RX6 307 yX6_plansThere ∈ gdT := tm4_12 (List.mem_of_getElem? (i := 7) rfl) rfl
theorem lX6_310 : Cond.methodLink RX6 310 yX0_note ∈ gdT := tm2_1 (List.mem_of_getElem? (i := 15) rfl) rfl
theorem lX6_315 : Cond.methodLink RX6 315 yX5_tryKey ∈ gdT := tm3_10 (List.mem_of_getElem? (i := 15) rfl) rfl
theorem lX6_319 : Cond.methodLink RX6 319 yX6_wantedLast ∈ gdT := tm3_12 (List.mem_of_getElem? (i := 1) rfl) rfl
theorem lX6_330 : Cond.methodLink RX6 330 yX5_wasWritten ∈ gdT := tm4_10 (List.mem_of_getElem? (i := 12) rfl) rfl
theorem lX6_333 : Cond.methodLink RX6 333 yX5_install ∈ gdT := tm4_11 (List.mem_of_getElem? (i := 0) rfl) rfl
theorem lX0_3 : Cond.methodLink RX0 3 objectInit ∈ gdT := tm1_3 (List.mem_of_getElem? (i := 4) rfl) rfl
theorem lX0_24 : Cond.methodLink RX0 24 yX0_keepHere ∈ gdT := tm1_4 (List.mem_of_getElem? (i := 10) rfl) rfl
theorem lX0_31 : Cond.methodLink RX0 31 yJ9_min_7cf53 ∈ gdT := tm2_2 (List.mem_of_getElem? (i := 3) rfl) rfl
theorem lX0_39 : Cond.methodLink RX0 39 yX5_copyTo ∈ gdT := tm1_4 (List.mem_of_getElem? (i := 14) rfl) rfl
theorem lX0_43 : Cond.methodLink RX0 43 yX0_stepTo ∈ gdT := tm2_12 (List.mem_of_getElem? (i := 11) rfl) rfl
theorem lX0_47 : Cond.methodLink RX0 47 yX5_copyFrom ∈ gdT := tm2_12 (List.mem_of_getElem? (i := 15) rfl) rfl
theorem lX1_3 : Cond.methodLink RX1 3 objectInit ∈ gdT := tm1_6 (List.mem_of_getElem? (i := 13) rfl) rfl
theorem lX1_45 : Cond.methodLink RX1 45 yJ7_fill_d0a16 ∈ gdT := tm4_4 (List.mem_of_getElem? (i := 8) rfl) rfl
theorem lX1_51 : Cond.methodLink RX1 51 yX1_beginOrder ∈ gdT := tm4_4 (List.mem_of_getElem? (i := 11) rfl) rfl
theorem lX1_61 : Cond.methodLink RX1 61 yX5_copyFrom ∈ gdT := tm4_5 (List.mem_of_getElem? (i := 0) rfl) rfl
theorem lX1_65 : Cond.methodLink RX1 65 yJ7_fill_53178 ∈ gdT := tm4_5 (List.mem_of_getElem? (i := 1) rfl) rfl
theorem lX1_71 : Cond.methodLink RX1 71 yX2_perform ∈ gdT := tm4_5 (List.mem_of_getElem? (i := 2) rfl) rfl
theorem lX1_77 : Cond.methodLink RX1 77 yX5_allLoads ∈ gdT := tm4_5 (List.mem_of_getElem? (i := 13) rfl) rfl
theorem lX1_81 : Cond.methodLink RX1 81 yX1_weigh ∈ gdT := tm4_5 (List.mem_of_getElem? (i := 14) rfl) rfl
theorem lX1_85 : Cond.methodLink RX1 85 yX1_turnToNextOrder ∈ gdT := tm4_6 (List.mem_of_getElem? (i := 10) rfl) rfl
theorem lX1_92 : Cond.methodLink RX1 92 yJ9_min_7cf53 ∈ gdT := tm4_6 (List.mem_of_getElem? (i := 2) rfl) rfl
theorem lX1_98 : Cond.methodLink RX1 98 yJ9_max_7cf53 ∈ gdT := tm4_6 (List.mem_of_getElem? (i := 3) rfl) rfl
theorem lX1_101 : Cond.methodLink RX1 101 yX5_outdatedGroups ∈ gdT := tm4_6 (List.mem_of_getElem? (i := 6) rfl) rfl
theorem aX1_104 : cpW RX1 104 := ⟨tm4_6 (List.mem_of_getElem? (i := 7) rfl) rfl, tm1_2 (List.mem_of_getElem? (i := 4) rfl) rfl, tm1_2 (List.mem_of_getElem? (i := 3) rfl) rfl, tm1_0 (List.mem_of_getElem? (i := 3) rfl) rfl⟩
theorem lX1_110 : Cond.methodLink RX1 110 yX5_hasEntry ∈ gdT := tm4_6 (List.mem_of_getElem? (i := 8) rfl) rfl
theorem lX1_114 : Cond.methodLink RX1 114 yX5_entryPart ∈ gdT := tm4_6 (List.mem_of_getElem? (i := 9) rfl) rfl
theorem lX1_118 : Cond.methodLink RX1 118 yX1_swap ∈ gdT := tm4_6 (List.mem_of_getElem? (i := 14) rfl) rfl
theorem lX1_121 : Cond.methodLink RX1 121 yX1_valuesFound ∈ gdT := tm4_7 (List.mem_of_getElem? (i := 6) rfl) rfl
theorem lX1_124 : Cond.methodLink RX1 124 yJ13_bitCount_95d88 ∈ gdT := tm4_7 (List.mem_of_getElem? (i := 10) rfl) rfl
theorem lX2_3 : Cond.methodLink RX2 3 objectInit ∈ gdT := tm1_10 (List.mem_of_getElem? (i := 5) rfl) rfl
theorem lX2_25 : Cond.methodLink RX2 25 yX5_obtain ∈ gdT := tm4_5 (List.mem_of_getElem? (i := 6) rfl) rfl
theorem lX2_31 : Cond.methodLink RX2 31 yX5_lookUp ∈ gdT := tm4_5 (List.mem_of_getElem? (i := 7) rfl) rfl
theorem lX2_35 : Cond.methodLink RX2 35 yX5_bringIn ∈ gdT := tm4_5 (List.mem_of_getElem? (i := 8) rfl) rfl
theorem lX2_38 : Cond.methodLink RX2 38 yX5_writeDown ∈ gdT := tm4_5 (List.mem_of_getElem? (i := 9) rfl) rfl
theorem lX2_42 : Cond.methodLink RX2 42 yX5_applyNext ∈ gdT := tm4_5 (List.mem_of_getElem? (i := 10) rfl) rfl
theorem lX2_45 : Cond.methodLink RX2 45 yX5_pass ∈ gdT := tm4_5 (List.mem_of_getElem? (i := 11) rfl) rfl
theorem lX2_48 : Cond.methodLink RX2 48 yX5_turn ∈ gdT := tm4_5 (List.mem_of_getElem? (i := 12) rfl) rfl
theorem lX3_3 : Cond.methodLink RX3 3 objectInit ∈ gdT := tm1_5 (List.mem_of_getElem? (i := 7) rfl) rfl
theorem lX3_15 : Cond.methodLink RX3 15 yX5_allLoads ∈ gdT := tm3_7 (List.mem_of_getElem? (i := 2) rfl) rfl
theorem lX3_21 : Cond.methodLink RX3 21 yX5_ledOf ∈ gdT := tm3_7 (List.mem_of_getElem? (i := 7) rfl) rfl
theorem lX3_29 : Cond.methodLink RX3 29 yX3_obtainAll ∈ gdT := tm3_7 (List.mem_of_getElem? (i := 8) rfl) rfl
theorem lX3_33 : Cond.methodLink RX3 33 yX3_lookAll ∈ gdT := tm3_7 (List.mem_of_getElem? (i := 13) rfl) rfl
theorem lX3_37 : Cond.methodLink RX3 37 yX3_fillAll ∈ gdT := tm3_8 (List.mem_of_getElem? (i := 6) rfl) rfl
theorem lX3_40 : Cond.methodLink RX3 40 yJ6_bitCount_0f7a4 ∈ gdT := tm3_8 (List.mem_of_getElem? (i := 11) rfl) rfl
theorem lX3_54 : Cond.methodLink RX3 54 yX5_obtain ∈ gdT := tm3_7 (List.mem_of_getElem? (i := 12) rfl) rfl
theorem lX3_57 : Cond.methodLink RX3 57 yX5_hasHandFor ∈ gdT := tm3_8 (List.mem_of_getElem? (i := 1) rfl) rfl
theorem lX3_61 : Cond.methodLink RX3 61 yX5_lookUp ∈ gdT := tm3_8 (List.mem_of_getElem? (i := 5) rfl) rfl
theorem lX3_64 : Cond.methodLink RX3 64 yX5_bringIn ∈ gdT := tm3_8 (List.mem_of_getElem? (i := 10) rfl) rfl
theorem lX4_3 : Cond.methodLink RX4 3 objectInit ∈ gdT := tm1_9 (List.mem_of_getElem? (i := 3) rfl) rfl
theorem lX4_27 : Cond.methodLink RX4 27 yX4_readAct ∈ gdT := tm3_13 (List.mem_of_getElem? (i := 4) rfl) rfl
theorem lX4_31 : Cond.methodLink RX4 31 yX4_readWord ∈ gdT := tm3_13 (List.mem_of_getElem? (i := 8) rfl) rfl
theorem lX4_35 : Cond.methodLink RX4 35 yX4_mostOf ∈ gdT := tm4_2 (List.mem_of_getElem? (i := 11) rfl) rfl
theorem lX4_39 : Cond.methodLink RX4 39 yX4_readNumber ∈ gdT := tm4_2 (List.mem_of_getElem? (i := 14) rfl) rfl
theorem lX4_43 : Cond.methodLink RX4 43 yX2_add ∈ gdT := tm4_3 (List.mem_of_getElem? (i := 2) rfl) rfl
theorem lX4_47 : Cond.methodLink RX4 47 yX4_wordOf ∈ gdT := tm3_13 (List.mem_of_getElem? (i := 12) rfl) rfl
theorem lX4_51 : Cond.methodLink RX4 51 yX4_stands ∈ gdT := tm3_14 (List.mem_of_getElem? (i := 7) rfl) rfl
theorem lX4_55 : Cond.methodLink RX4 55 yJ0_length_8abf5 ∈ gdT := tm3_14 (List.mem_of_getElem? (i := 11) rfl) rfl
theorem lX4_59 : Cond.methodLink RX4 59 yJ0_charAt_5068e ∈ gdT := tm4_0 (List.mem_of_getElem? (i := 5) rfl) rfl
theorem lX5_5 : Cond.methodLink RX5 5 objectInit ∈ gdT := tm1_1 (List.mem_of_getElem? (i := 15) rfl) rfl
theorem aX5_18 : cpW RX5 18 := ⟨tm1_2 (List.mem_of_getElem? (i := 2) rfl) rfl, tm1_2 (List.mem_of_getElem? (i := 4) rfl) rfl, tm1_2 (List.mem_of_getElem? (i := 3) rfl) rfl, tm1_0 (List.mem_of_getElem? (i := 3) rfl) rfl⟩
theorem lX5_24 : Cond.methodLink RX5 24 yX5_handAt ∈ gdT := tm1_2 (List.mem_of_getElem? (i := 5) rfl) rfl
theorem lX5_28 : Cond.methodLink RX5 28 yX5_loadsOf ∈ gdT := tm3_7 (List.mem_of_getElem? (i := 6) rfl) rfl
theorem lX5_31 : Cond.methodLink RX5 31 yX5_spotAt ∈ gdT := tm1_14 (List.mem_of_getElem? (i := 12) rfl) rfl
theorem lX5_35 : Cond.methodLink RX5 35 yX5_isAhead ∈ gdT := tm1_14 (List.mem_of_getElem? (i := 15) rfl) rfl
theorem lX5_42 : Cond.methodLink RX5 42 yX5_writeAt ∈ gdT := tm2_4 (List.mem_of_getElem? (i := 6) rfl) rfl
theorem lX5_45 : Cond.methodLink RX5 45 yX5_writes ∈ gdT := tm2_7 (List.mem_of_getElem? (i := 5) rfl) rfl
theorem lX5_49 : Cond.methodLink RX5 49 yX5_isWriteBy ∈ gdT := tm3_4 (List.mem_of_getElem? (i := 2) rfl) rfl
theorem lX5_56 : Cond.methodLink RX5 56 yX5_placeOf ∈ gdT := tm2_8 (List.mem_of_getElem? (i := 9) rfl) rfl
theorem lX5_59 : Cond.methodLink RX5 59 yX5_outdatedKeys ∈ gdT := tm3_10 (List.mem_of_getElem? (i := 1) rfl) rfl
theorem lX5_62 : Cond.methodLink RX5 62 yX5_hotterThan ∈ gdT := tm3_5 (List.mem_of_getElem? (i := 13) rfl) rfl
theorem lX5_65 : Cond.methodLink RX5 65 yX5_dueCodeBehind ∈ gdT := tm2_11 (List.mem_of_getElem? (i := 9) rfl) rfl
theorem lX5_71 : Cond.methodLink RX5 71 yX5_groupOf ∈ gdT := tm1_14 (List.mem_of_getElem? (i := 8) rfl) rfl
theorem lX5_74 : Cond.methodLink RX5 74 yX5_useEntry ∈ gdT := tm2_0 (List.mem_of_getElem? (i := 3) rfl) rfl
theorem lX5_78 : Cond.methodLink RX5 78 yX5_settingOf ∈ gdT := tm2_0 (List.mem_of_getElem? (i := 11) rfl) rfl
theorem lX5_81 : Cond.methodLink RX5 81 yX5_answerBesideLease ∈ gdT := tm2_0 (List.mem_of_getElem? (i := 15) rfl) rfl
theorem lX5_84 : Cond.methodLink RX5 84 yX5_giveLease ∈ gdT := tm2_1 (List.mem_of_getElem? (i := 3) rfl) rfl
theorem lX5_87 : Cond.methodLink RX5 87 yX5_takeHand ∈ gdT := tm2_1 (List.mem_of_getElem? (i := 7) rfl) rfl
theorem lX5_91 : Cond.methodLink RX5 91 yX5_now ∈ gdT := tm2_0 (List.mem_of_getElem? (i := 7) rfl) rfl
theorem lX5_94 : Cond.methodLink RX5 94 yX5_isWarmBeside ∈ gdT := tm2_2 (List.mem_of_getElem? (i := 14) rfl) rfl
theorem lX5_97 : Cond.methodLink RX5 97 yX5_hasEntry ∈ gdT := tm2_3 (List.mem_of_getElem? (i := 2) rfl) rfl
theorem lX5_101 : Cond.methodLink RX5 101 yX5_keepInHand ∈ gdT := tm2_3 (List.mem_of_getElem? (i := 6) rfl) rfl
theorem lX5_105 : Cond.methodLink RX5 105 yX5_markerOf ∈ gdT := tm2_3 (List.mem_of_getElem? (i := 10) rfl) rfl
theorem lX5_108 : Cond.methodLink RX5 108 yX5_storeVersion ∈ gdT := tm2_3 (List.mem_of_getElem? (i := 14) rfl) rfl
theorem lX5_111 : Cond.methodLink RX5 111 yX5_valueOf ∈ gdT := tm2_4 (List.mem_of_getElem? (i := 2) rfl) rfl
theorem lX5_114 : Cond.methodLink RX5 114 yX5_endHand ∈ gdT := tm2_5 (List.mem_of_getElem? (i := 1) rfl) rfl
theorem lX5_117 : Cond.methodLink RX5 117 yX5_isVoid ∈ gdT := tm2_5 (List.mem_of_getElem? (i := 5) rfl) rfl
theorem lX5_120 : Cond.methodLink RX5 120 yX5_install ∈ gdT := tm2_5 (List.mem_of_getElem? (i := 9) rfl) rfl
theorem lX5_124 : Cond.methodLink RX5 124 yX5_entryKeys ∈ gdT := tm2_5 (List.mem_of_getElem? (i := 13) rfl) rfl
theorem lX5_127 : Cond.methodLink RX5 127 yJ6_bitCount_0f7a4 ∈ gdT := tm2_6 (List.mem_of_getElem? (i := 1) rfl) rfl
theorem lX5_132 : Cond.methodLink RX5 132 yX5_leastKey ∈ gdT := tm2_6 (List.mem_of_getElem? (i := 7) rfl) rfl
theorem lX5_135 : Cond.methodLink RX5 135 yX5_strike ∈ gdT := tm2_7 (List.mem_of_getElem? (i := 9) rfl) rfl
theorem lX5_139 : Cond.methodLink RX5 139 yX5_endIn ∈ gdT := tm2_7 (List.mem_of_getElem? (i := 13) rfl) rfl
theorem lX5_142 : Cond.methodLink RX5 142 yX5_applyNext ∈ gdT := tm3_9 (List.mem_of_getElem? (i := 8) rfl) rfl
theorem lX5_145 : Cond.methodLink RX5 145 yX5_endOfDue ∈ gdT := tm2_11 (List.mem_of_getElem? (i := 15) rfl) rfl
theorem lX5_148 : Cond.methodLink RX5 148 yX5_pass ∈ gdT := tm2_12 (List.mem_of_getElem? (i := 2) rfl) rfl
theorem lL_9 : Cond.methodLink RL 9 yX6_init ∈ gdT := tm1_1 (List.mem_of_getElem? (i := 4) rfl) rfl
theorem lL_12 : Cond.methodLink RL 12 yX7_init ∈ gdT := tm4_12 (List.mem_of_getElem? (i := 13) rfl) rfl
theorem lL_13 : Cond.methodLink RL 13 yX6_get ∈ gdT := tm1_13 (List.mem_of_getElem? (i := 13) rfl) rfl
theorem lL_17 : Cond.methodLink RL 17 yX7_get ∈ gdT := tm5_5 (List.mem_of_getElem? (i := 1) rfl) rfl
theorem lL_18 : Cond.methodLink RL 18 yX6_look ∈ gdT := tm2_2 (List.mem_of_getElem? (i := 6) rfl) rfl
theorem lL_22 : Cond.methodLink RL 22 yX7_look ∈ gdT := tm5_7 (List.mem_of_getElem? (i := 9) rfl) rfl
theorem lL_23 : Cond.methodLink RL 23 yX6_fill ∈ gdT := tm2_4 (List.mem_of_getElem? (i := 9) rfl) rfl
theorem lL_26 : Cond.methodLink RL 26 yX7_fill ∈ gdT := tm5_9 (List.mem_of_getElem? (i := 1) rfl) rfl
theorem lL_27 : Cond.methodLink RL 27 yX6_write ∈ gdT := tm2_6 (List.mem_of_getElem? (i := 13) rfl) rfl
theorem lL_31 : Cond.methodLink RL 31 yX7_write ∈ gdT := tm5_10 (List.mem_of_getElem? (i := 8) rfl) rfl
theorem lL_32 : Cond.methodLink RL 32 yX6_apply ∈ gdT := tm2_8 (List.mem_of_getElem? (i := 1) rfl) rfl
theorem lL_35 : Cond.methodLink RL 35 yX7_apply ∈ gdT := tm5_11 (List.mem_of_getElem? (i := 5) rfl) rfl
theorem lL_36 : Cond.methodLink RL 36 yX6_tick ∈ gdT := tm2_8 (List.mem_of_getElem? (i := 13) rfl) rfl
theorem lL_39 : Cond.methodLink RL 39 yX7_tick ∈ gdT := tm5_12 (List.mem_of_getElem? (i := 1) rfl) rfl
theorem lL_40 : Cond.methodLink RL 40 yX6_cold ∈ gdT := tm2_9 (List.mem_of_getElem? (i := 5) rfl) rfl
theorem lL_43 : Cond.methodLink RL 43 yX7_cold ∈ gdT := tm5_12 (List.mem_of_getElem? (i := 6) rfl) rfl
theorem lL_44 : Cond.methodLink RL 44 yX6_go ∈ gdT := tm2_9 (List.mem_of_getElem? (i := 13) rfl) rfl
theorem lL_47 : Cond.methodLink RL 47 yX7_go ∈ gdT := tm5_13 (List.mem_of_getElem? (i := 1) rfl) rfl
theorem lL_48 : Cond.methodLink RL 48 yX6_set ∈ gdT := tm2_10 (List.mem_of_getElem? (i := 5) rfl) rfl
theorem lL_51 : Cond.methodLink RL 51 yX7_set ∈ gdT := tm5_13 (List.mem_of_getElem? (i := 5) rfl) rfl
theorem lL_52 : Cond.methodLink RL 52 yX6_next ∈ gdT := tm2_11 (List.mem_of_getElem? (i := 1) rfl) rfl
theorem lL_56 : Cond.methodLink RL 56 yX7_next ∈ gdT := tm6_2 (List.mem_of_getElem? (i := 10) rfl) rfl
theorem lL_57 : Cond.methodLink RL 57 yX6_undo ∈ gdT := tm2_12 (List.mem_of_getElem? (i := 3) rfl) rfl
theorem lL_60 : Cond.methodLink RL 60 yX7_undo ∈ gdT := tm5_4 (List.mem_of_getElem? (i := 9) rfl) rfl
theorem lL_61 : Cond.methodLink RL 61 yX6_redo ∈ gdT := tm2_13 (List.mem_of_getElem? (i := 3) rfl) rfl
theorem lL_64 : Cond.methodLink RL 64 yX7_redo ∈ gdT := tm5_4 (List.mem_of_getElem? (i := 13) rfl) rfl
theorem lL_65 : Cond.methodLink RL 65 yX6_setting ∈ gdT := tm2_13 (List.mem_of_getElem? (i := 11) rfl) rfl
theorem lL_68 : Cond.methodLink RL 68 yX7_setting ∈ gdT := tm5_13 (List.mem_of_getElem? (i := 10) rfl) rfl
theorem lL_69 : Cond.methodLink RL 69 yX6_entry ∈ gdT := tm2_14 (List.mem_of_getElem? (i := 0) rfl) rfl
theorem lL_72 : Cond.methodLink RL 72 yX7_entry ∈ gdT := tm5_13 (List.mem_of_getElem? (i := 14) rfl) rfl
theorem lL_73 : Cond.methodLink RL 73 yX6_beside ∈ gdT := tm2_14 (List.mem_of_getElem? (i := 9) rfl) rfl
theorem lL_76 : Cond.methodLink RL 76 yX7_beside ∈ gdT := tm5_14 (List.mem_of_getElem? (i := 2) rfl) rfl
theorem lL_77 : Cond.methodLink RL 77 yX6_client ∈ gdT := tm3_0 (List.mem_of_getElem? (i := 3) rfl) rfl
theorem lL_80 : Cond.methodLink RL 80 yX7_client ∈ gdT := tm5_14 (List.mem_of_getElem? (i := 6) rfl) rfl
theorem lL_81 : Cond.methodLink RL 81 yX6_store ∈ gdT := tm3_0 (List.mem_of_getElem? (i := 11) rfl) rfl
theorem lL_84 : Cond.methodLink RL 84 yX7_store ∈ gdT := tm5_14 (List.mem_of_getElem? (i := 10) rfl) rfl
theorem lL_85 : Cond.methodLink RL 85 yX6_region ∈ gdT := tm3_1 (List.mem_of_getElem? (i := 2) rfl) rfl
theorem lL_88 : Cond.methodLink RL 88 yX7_region ∈ gdT := tm5_14 (List.mem_of_getElem? (i := 14) rfl) rfl
theorem lL_89 : Cond.methodLink RL 89 yX6_within ∈ gdT := tm3_1 (List.mem_of_getElem? (i := 12) rfl) rfl
theorem lL_92 : Cond.methodLink RL 92 yX7_within ∈ gdT := tm6_0 (List.mem_of_getElem? (i := 2) rfl) rfl
theorem lL_93 : Cond.methodLink RL 93 yX6_least ∈ gdT := tm3_2 (List.mem_of_getElem? (i := 4) rfl) rfl
theorem lL_96 : Cond.methodLink RL 96 yX7_least ∈ gdT := tm6_0 (List.mem_of_getElem? (i := 6) rfl) rfl
theorem lL_97 : Cond.methodLink RL 97 yX6_outdated ∈ gdT := tm3_2 (List.mem_of_getElem? (i := 9) rfl) rfl
theorem lL_100 : Cond.methodLink RL 100 yX7_outdated ∈ gdT := tm6_0 (List.mem_of_getElem? (i := 11) rfl) rfl
theorem lL_101 : Cond.methodLink RL 101 yX6_lag ∈ gdT := tm3_3 (List.mem_of_getElem? (i := 1) rfl) rfl
theorem lL_104 : Cond.methodLink RL 104 yX7_lag ∈ gdT := tm6_1 (List.mem_of_getElem? (i := 3) rfl) rfl
theorem lL_105 : Cond.methodLink RL 105 yX6_own ∈ gdT := tm3_3 (List.mem_of_getElem? (i := 9) rfl) rfl
theorem lL_108 : Cond.methodLink RL 108 yX7_own ∈ gdT := tm6_1 (List.mem_of_getElem? (i := 7) rfl) rfl
theorem lL_109 : Cond.methodLink RL 109 yX6_due ∈ gdT := tm3_4 (List.mem_of_getElem? (i := 6) rfl) rfl
theorem lL_112 : Cond.methodLink RL 112 yX7_due ∈ gdT := tm6_1 (List.mem_of_getElem? (i := 11) rfl) rfl
theorem lL_113 : Cond.methodLink RL 113 yX6_hottest ∈ gdT := tm3_5 (List.mem_of_getElem? (i := 5) rfl) rfl
theorem lL_116 : Cond.methodLink RL 116 yX7_hottest ∈ gdT := tm6_2 (List.mem_of_getElem? (i := 14) rfl) rfl
theorem lL_117 : Cond.methodLink RL 117 yX6_led ∈ gdT := tm3_6 (List.mem_of_getElem? (i := 1) rfl) rfl
theorem lL_120 : Cond.methodLink RL 120 yX7_led ∈ gdT := tm6_3 (List.mem_of_getElem? (i := 2) rfl) rfl
theorem lL_121 : Cond.methodLink RL 121 yX6_storm ∈ gdT := tm3_6 (List.mem_of_getElem? (i := 9) rfl) rfl
theorem lL_125 : Cond.methodLink RL 125 yX7_storm ∈ gdT := tm6_8 (List.mem_of_getElem? (i := 2) rfl) rfl
theorem lL_126 : Cond.methodLink RL 126 yX6_settled ∈ gdT := tm3_9 (List.mem_of_getElem? (i := 0) rfl) rfl
theorem lL_129 : Cond.methodLink RL 129 yX7_settled ∈ gdT := tm6_8 (List.mem_of_getElem? (i := 14) rfl) rfl
theorem lL_130 : Cond.methodLink RL 130 yX6_tried ∈ gdT := tm3_10 (List.mem_of_getElem? (i := 2) rfl) rfl
theorem lL_133 : Cond.methodLink RL 133 yX7_tried ∈ gdT := tm6_9 (List.mem_of_getElem? (i := 6) rfl) rfl
theorem lL_134 : Cond.methodLink RL 134 yX6_best ∈ gdT := tm3_11 (List.mem_of_getElem? (i := 3) rfl) rfl
theorem lL_137 : Cond.methodLink RL 137 yX7_best ∈ gdT := tm6_10 (List.mem_of_getElem? (i := 5) rfl) rfl
theorem lL_138 : Cond.methodLink RL 138 yX6_foreseen ∈ gdT := tm3_11 (List.mem_of_getElem? (i := 7) rfl) rfl
theorem lL_141 : Cond.methodLink RL 141 yX7_foreseen ∈ gdT := tm6_10 (List.mem_of_getElem? (i := 9) rfl) rfl
theorem lL_142 : Cond.methodLink RL 142 yX6_feed ∈ gdT := tm3_12 (List.mem_of_getElem? (i := 4) rfl) rfl
theorem lL_145 : Cond.methodLink RL 145 yX7_feed ∈ gdT := tm6_3 (List.mem_of_getElem? (i := 6) rfl) rfl
theorem lL_146 : Cond.methodLink RL 146 yX6_plan ∈ gdT := tm3_12 (List.mem_of_getElem? (i := 12) rfl) rfl
theorem lL_149 : Cond.methodLink RL 149 yX7_plan ∈ gdT := tm6_3 (List.mem_of_getElem? (i := 11) rfl) rfl
theorem lL_150 : Cond.methodLink RL 150 yX6_orders ∈ gdT := tm4_3 (List.mem_of_getElem? (i := 7) rfl) rfl
theorem lL_153 : Cond.methodLink RL 153 yX7_orders ∈ gdT := tm6_5 (List.mem_of_getElem? (i := 8) rfl) rfl
theorem lL_154 : Cond.methodLink RL 154 yX6_witness ∈ gdT := tm4_8 (List.mem_of_getElem? (i := 0) rfl) rfl
theorem lL_157 : Cond.methodLink RL 157 yX7_witness ∈ gdT := tm6_7 (List.mem_of_getElem? (i := 14) rfl) rfl
theorem lL_158 : Cond.methodLink RL 158 yX6_row ∈ gdT := tm4_8 (List.mem_of_getElem? (i := 8) rfl) rfl
theorem lL_161 : Cond.methodLink RL 161 yX7_row ∈ gdT := tm6_11 (List.mem_of_getElem? (i := 1) rfl) rfl
theorem lL_164 : Cond.methodLink RL 164 yX6_put ∈ gdT := tm4_8 (List.mem_of_getElem? (i := 13) rfl) rfl
theorem lL_168 : Cond.methodLink RL 168 yX7_put ∈ gdT := tm6_11 (List.mem_of_getElem? (i := 5) rfl) rfl
theorem lL_169 : Cond.methodLink RL 169 yX6_element ∈ gdT := tm4_9 (List.mem_of_getElem? (i := 5) rfl) rfl
theorem lL_173 : Cond.methodLink RL 173 yX7_element ∈ gdT := tm6_11 (List.mem_of_getElem? (i := 13) rfl) rfl
theorem lL_174 : Cond.methodLink RL 174 yX6_save ∈ gdT := tm4_9 (List.mem_of_getElem? (i := 10) rfl) rfl
theorem lL_177 : Cond.methodLink RL 177 yX7_save ∈ gdT := tm6_12 (List.mem_of_getElem? (i := 2) rfl) rfl
theorem lL_178 : Cond.methodLink RL 178 yX6_restore ∈ gdT := tm4_10 (List.mem_of_getElem? (i := 3) rfl) rfl
theorem lL_181 : Cond.methodLink RL 181 yX7_restore ∈ gdT := tm6_12 (List.mem_of_getElem? (i := 7) rfl) rfl
theorem lL_182 : Cond.methodLink RL 182 yX6_image ∈ gdT := tm4_11 (List.mem_of_getElem? (i := 1) rfl) rfl
theorem lL_185 : Cond.methodLink RL 185 yX7_image ∈ gdT := tm6_12 (List.mem_of_getElem? (i := 15) rfl) rfl
theorem lL_186 : Cond.methodLink RL 186 yX6_back ∈ gdT := tm4_11 (List.mem_of_getElem? (i := 7) rfl) rfl
theorem lL_189 : Cond.methodLink RL 189 yX7_back ∈ gdT := tm6_13 (List.mem_of_getElem? (i := 3) rfl) rfl
theorem lL_190 : Cond.methodLink RL 190 yX6_count ∈ gdT := tm4_11 (List.mem_of_getElem? (i := 11) rfl) rfl
theorem lL_193 : Cond.methodLink RL 193 yX7_count ∈ gdT := tm6_13 (List.mem_of_getElem? (i := 7) rfl) rfl
theorem lX7_3 : Cond.methodLink RX7 3 objectInit ∈ gdT := tm4_13 (List.mem_of_getElem? (i := 0) rfl) rfl
theorem lX7_82 : Cond.methodLink RX7 82 yX7_hand ∈ gdT := tm4_13 (List.mem_of_getElem? (i := 9) rfl) rfl
theorem aX7_86 : cpW RX7 86 := ⟨tm4_13 (List.mem_of_getElem? (i := 12) rfl) rfl, tm1_2 (List.mem_of_getElem? (i := 4) rfl) rfl, tm1_2 (List.mem_of_getElem? (i := 3) rfl) rfl, tm1_0 (List.mem_of_getElem? (i := 3) rfl) rfl⟩
theorem lX7_94 : Cond.methodLink RX7 94 yX7_in ∈ gdT := tm5_5 (List.mem_of_getElem? (i := 9) rfl) rfl
theorem lX7_102 : Cond.methodLink RX7 102 yX7_keyOf ∈ gdT := tm5_8 (List.mem_of_getElem? (i := 9) rfl) rfl
theorem lX7_105 : Cond.methodLink RX7 105 yX7_lastOf ∈ gdT := tm5_8 (List.mem_of_getElem? (i := 5) rfl) rfl
theorem lX7_109 : Cond.methodLink RX7 109 yX7_groupOf ∈ gdT := tm5_6 (List.mem_of_getElem? (i := 4) rfl) rfl
theorem lX7_112 : Cond.methodLink RX7 112 yX7_entryAt ∈ gdT := tm5_6 (List.mem_of_getElem? (i := 8) rfl) rfl
theorem lX7_115 : Cond.methodLink RX7 115 yX7_isThere ∈ gdT := tm5_6 (List.mem_of_getElem? (i := 11) rfl) rfl
theorem lX7_119 : Cond.methodLink RX7 119 yX7_leaseAt ∈ gdT := tm5_6 (List.mem_of_getElem? (i := 15) rfl) rfl
theorem lX7_122 : Cond.methodLink RX7 122 yX7_oldAt ∈ gdT := tm5_7 (List.mem_of_getElem? (i := 2) rfl) rfl
theorem lX7_125 : Cond.methodLink RX7 125 yX7_storeVersion ∈ gdT := tm5_8 (List.mem_of_getElem? (i := 1) rfl) rfl
theorem lX7_128 : Cond.methodLink RX7 128 yX7_valueOf ∈ gdT := tm5_8 (List.mem_of_getElem? (i := 13) rfl) rfl
theorem lX7_131 : Cond.methodLink RX7 131 yX7_entriesIn ∈ gdT := tm5_10 (List.mem_of_getElem? (i := 0) rfl) rfl
theorem lX7_134 : Cond.methodLink RX7 134 yX7_leastIn ∈ gdT := tm5_10 (List.mem_of_getElem? (i := 4) rfl) rfl
theorem lX7_137 : Cond.methodLink RX7 137 yX7_holdAt ∈ gdT := tm5_9 (List.mem_of_getElem? (i := 9) rfl) rfl
theorem lX7_140 : Cond.methodLink RX7 140 yX7_fills ∈ gdT := tm5_9 (List.mem_of_getElem? (i := 12) rfl) rfl
theorem lX7_144 : Cond.methodLink RX7 144 yX7_deletes ∈ gdT := tm5_11 (List.mem_of_getElem? (i := 1) rfl) rfl
theorem lX7_155 : Cond.methodLink RX7 155 yX7_isClient ∈ gdT := tm5_5 (List.mem_of_getElem? (i := 5) rfl) rfl
theorem lX7_158 : Cond.methodLink RX7 158 yX7_isKey ∈ gdT := tm5_5 (List.mem_of_getElem? (i := 12) rfl) rfl
theorem lX7_161 : Cond.methodLink RX7 161 yX7_doGet ∈ gdT := tm5_6 (List.mem_of_getElem? (i := 0) rfl) rfl
theorem lX7_164 : Cond.methodLink RX7 164 yX7_told ∈ gdT := tm5_7 (List.mem_of_getElem? (i := 5) rfl) rfl
theorem lX7_167 : Cond.methodLink RX7 167 yX7_doLook ∈ gdT := tm5_7 (List.mem_of_getElem? (i := 13) rfl) rfl
theorem lX7_170 : Cond.methodLink RX7 170 yX7_doFill ∈ gdT := tm5_9 (List.mem_of_getElem? (i := 5) rfl) rfl
theorem lX7_175 : Cond.methodLink RX7 175 yX7_doWrite ∈ gdT := tm5_10 (List.mem_of_getElem? (i := 13) rfl) rfl
theorem lX7_179 : Cond.methodLink RX7 179 yX7_isRegion ∈ gdT := tm5_11 (List.mem_of_getElem? (i := 9) rfl) rfl
theorem lX7_182 : Cond.methodLink RX7 182 yX7_doApply ∈ gdT := tm5_11 (List.mem_of_getElem? (i := 13) rfl) rfl
theorem lX7_187 : Cond.methodLink RX7 187 yX7_isGroup ∈ gdT := tm5_12 (List.mem_of_getElem? (i := 10) rfl) rfl
theorem lX7_190 : Cond.methodLink RX7 190 yX7_doCold ∈ gdT := tm5_12 (List.mem_of_getElem? (i := 13) rfl) rfl
theorem lX7_197 : Cond.methodLink RX7 197 yX7_isOutdated ∈ gdT := tm6_0 (List.mem_of_getElem? (i := 15) rfl) rfl
theorem lX7_203 : Cond.methodLink RX7 203 yX7_startOf ∈ gdT := tm6_2 (List.mem_of_getElem? (i := 4) rfl) rfl
theorem lX7_208 : Cond.methodLink RX7 208 yX7_dueAt ∈ gdT := tm6_1 (List.mem_of_getElem? (i := 15) rfl) rfl
theorem lX7_231 : Cond.methodLink RX7 231 yX7_wrong ∈ gdT := tm6_3 (List.mem_of_getElem? (i := 15) rfl) rfl
theorem lX7_235 : Cond.methodLink RX7 235 yX7_isFigure ∈ gdT := tm6_5 (List.mem_of_getElem? (i := 2) rfl) rfl
theorem lX7_245 : Cond.methodLink RX7 245 yX7_word ∈ gdT := tm6_4 (List.mem_of_getElem? (i := 7) rfl) rfl
theorem lX7_249 : Cond.methodLink RX7 249 yX7_number ∈ gdT := tm6_4 (List.mem_of_getElem? (i := 14) rfl) rfl
theorem lX7_252 : Cond.methodLink RX7 252 yX7_readsAct ∈ gdT := tm6_4 (List.mem_of_getElem? (i := 3) rfl) rfl
theorem lX7_278 : Cond.methodLink RX7 278 yX7_firstOrder ∈ gdT := tm6_6 (List.mem_of_getElem? (i := 7) rfl) rfl
theorem lX7_281 : Cond.methodLink RX7 281 yX7_loads ∈ gdT := tm6_6 (List.mem_of_getElem? (i := 11) rfl) rfl
theorem lX7_285 : Cond.methodLink RX7 285 yX7_does ∈ gdT := tm6_6 (List.mem_of_getElem? (i := 15) rfl) rfl
theorem lX7_288 : Cond.methodLink RX7 288 yX7_judges ∈ gdT := tm6_7 (List.mem_of_getElem? (i := 3) rfl) rfl
theorem lX7_291 : Cond.methodLink RX7 291 yX7_nextOrder ∈ gdT := tm6_7 (List.mem_of_getElem? (i := 10) rfl) rfl
theorem lX7_294 : Cond.methodLink RX7 294 yX7_outdated ∈ gdT := tm6_7 (List.mem_of_getElem? (i := 7) rfl) rfl
theorem lX7_297 : Cond.methodLink RX7 297 yJ9_min_7cf53 ∈ gdT := tm6_7 (List.mem_of_getElem? (i := 8) rfl) rfl
theorem lX7_302 : Cond.methodLink RX7 302 yJ9_max_7cf53 ∈ gdT := tm6_7 (List.mem_of_getElem? (i := 9) rfl) rfl
theorem lX7_305 : Cond.methodLink RX7 305 yX7_actsOf ∈ gdT := tm6_5 (List.mem_of_getElem? (i := 12) rfl) rfl
theorem lX7_310 : Cond.methodLink RX7 310 yX7_goesThrough ∈ gdT := tm6_6 (List.mem_of_getElem? (i := 2) rfl) rfl
theorem lX7_313 : Cond.methodLink RX7 313 yX7_allHave ∈ gdT := tm6_8 (List.mem_of_getElem? (i := 6) rfl) rfl
theorem lX7_316 : Cond.methodLink RX7 316 yX7_stormRound ∈ gdT := tm6_8 (List.mem_of_getElem? (i := 10) rfl) rfl
theorem lX7_320 : Cond.methodLink RX7 320 yX7_count ∈ gdT := tm6_9 (List.mem_of_getElem? (i := 2) rfl) rfl
theorem lX7_323 : Cond.methodLink RX7 323 yX7_isShelf ∈ gdT := tm6_9 (List.mem_of_getElem? (i := 14) rfl) rfl
theorem lX7_326 : Cond.methodLink RX7 326 yX7_lookAtRow ∈ gdT := tm6_9 (List.mem_of_getElem? (i := 10) rfl) rfl
theorem lX7_329 : Cond.methodLink RX7 329 yX7_hitsBy ∈ gdT := tm6_10 (List.mem_of_getElem? (i := 1) rfl) rfl
theorem lX7_332 : Cond.methodLink RX7 332 yX7_nextOf ∈ gdT := tm6_10 (List.mem_of_getElem? (i := 13) rfl) rfl
theorem lX7_335 : Cond.methodLink RX7 335 yX7_refusal ∈ gdT := tm6_11 (List.mem_of_getElem? (i := 9) rfl) rfl
theorem lX7_344 : Cond.methodLink RX7 344 yX7_restores ∈ gdT := tm6_12 (List.mem_of_getElem? (i := 11) rfl) rfl
theorem lJ0_335 : Cond.methodLink RJ0 335 yJ0_coder_7d493 ∈ gdT := tm3_14 (List.mem_of_getElem? (i := 15) rfl) rfl
theorem lJ0_492 : Cond.methodLink RJ0 492 yJ0_isLatin1_aae02 ∈ gdT := tm4_0 (List.mem_of_getElem? (i := 9) rfl) rfl
theorem lJ0_495 : Cond.methodLink RJ0 495 yJ1_charAt_3b067 ∈ gdT := tm4_0 (List.mem_of_getElem? (i := 13) rfl) rfl
theorem lJ0_498 : Cond.methodLink RJ0 498 yJ2_charAt_3b067 ∈ gdT := tm4_1 (List.mem_of_getElem? (i := 8) rfl) rfl
theorem lJ0_1059 : Cond.methodLink RJ0 1059 yJ3_checkIndex_8e157 ∈ gdT := tm4_1 (List.mem_of_getElem? (i := 5) rfl) rfl
theorem lJ1_9 : Cond.methodLink RJ1 9 yJ0_checkIndex_df160 ∈ gdT := tm4_1 (List.mem_of_getElem? (i := 0) rfl) rfl
theorem lJ2_48 : Cond.methodLink RJ2 48 yJ2_length_9d52b ∈ gdT := tm4_1 (List.mem_of_getElem? (i := 14) rfl) rfl
theorem lJ2_67 : Cond.methodLink RJ2 67 yJ2_checkIndex_2214a ∈ gdT := tm4_1 (List.mem_of_getElem? (i := 11) rfl) rfl
theorem lJ2_71 : Cond.methodLink RJ2 71 yJ2_getChar_3b067 ∈ gdT := tm4_2 (List.mem_of_getElem? (i := 2) rfl) rfl
theorem lJ2_414 : Cond.methodLink RJ2 414 yJ0_checkIndex_df160 ∈ gdT := tm4_2 (List.mem_of_getElem? (i := 1) rfl) rfl
theorem oI_i : Cond.instanceMethod objectInit ∈ gdT := tm1_1 (List.mem_of_getElem? (i := 8) rfl) rfl
theorem oI_c : Cond.code objectInit ⟨#[0xb1]⟩ 1 none ∈ gdT := tm1_1 (List.mem_of_getElem? (i := 9) rfl) rfl
theorem fX6_10 : FL RX6 10 6 0 := ⟨RX6, TX6, 11, rfl, by decide, gnX6, Or.inl (tm1_11 (List.mem_of_getElem? (i := 11) rfl) rfl)⟩
theorem pX6_10 : FP yX6_init 10 6 0 (.object "LookAsideCache$World") := ⟨RX6, TX6, 11, tyX6, rfl, by decide, gnX6, tyX6_ok, nmX6, by decide +kernel, Or.inl ⟨rfl, rfl, rfl, tm1_11 (List.mem_of_getElem? (i := 11) rfl) rfl⟩⟩
theorem fX6_16 : FL RX6 16 6 1 := ⟨RX6, TX6, 11, rfl, by decide, gnX6, Or.inl (tm1_11 (List.mem_of_getElem? (i := 12) rfl) rfl)⟩
theorem pX6_16 : FP yX6_init 16 6 1 (.object "LookAsideCache$World") := ⟨RX6, TX6, 11, tyX6, rfl, by decide, gnX6, tyX6_ok, nmX6, by decide +kernel, Or.inl ⟨rfl, rfl, rfl, tm1_11 (List.mem_of_getElem? (i := 12) rfl) rfl⟩⟩
theorem fX6_22 : FL RX6 22 6 2 := ⟨RX6, TX6, 11, rfl, by decide, gnX6, Or.inl (tm1_11 (List.mem_of_getElem? (i := 13) rfl) rfl)⟩
theorem pX6_22 : FP yX6_init 22 6 2 (.object "LookAsideCache$History") := ⟨RX6, TX6, 11, tyX6, rfl, by decide, gnX6, tyX6_ok, nmX6, by decide +kernel, Or.inl ⟨rfl, rfl, rfl, tm1_11 (List.mem_of_getElem? (i := 13) rfl) rfl⟩⟩
theorem fX6_34 : FL RX6 34 6 3 := ⟨RX6, TX6, 11, rfl, by decide, gnX6, Or.inl (tm1_11 (List.mem_of_getElem? (i := 14) rfl) rfl)⟩
theorem pX6_34 : FP yX6_init 34 6 3 (.object "LookAsideCache$Storm") := ⟨RX6, TX6, 11, tyX6, rfl, by decide, gnX6, tyX6_ok, nmX6, by decide +kernel, Or.inl ⟨rfl, rfl, rfl, tm1_11 (List.mem_of_getElem? (i := 14) rfl) rfl⟩⟩
theorem fX6_41 : FL RX6 41 6 4 := ⟨RX6, TX6, 11, rfl, by decide, gnX6, Or.inl (tm1_11 (List.mem_of_getElem? (i := 15) rfl) rfl)⟩
theorem pX6_41 : FP yX6_init 41 6 4 (.object "LookAsideCache$Orders") := ⟨RX6, TX6, 11, tyX6, rfl, by decide, gnX6, tyX6_ok, nmX6, by decide +kernel, Or.inl ⟨rfl, rfl, rfl, tm1_11 (List.mem_of_getElem? (i := 15) rfl) rfl⟩⟩
theorem fX6_48 : FL RX6 48 6 5 := ⟨RX6, TX6, 11, rfl, by decide, gnX6, Or.inl (tm1_12 (List.mem_of_getElem? (i := 0) rfl) rfl)⟩
theorem pX6_48 : FP yX6_init 48 6 5 (.object "LookAsideCache$Tape") := ⟨RX6, TX6, 11, tyX6, rfl, by decide, gnX6, tyX6_ok, nmX6, by decide +kernel, Or.inl ⟨rfl, rfl, rfl, tm1_12 (List.mem_of_getElem? (i := 0) rfl) rfl⟩⟩
theorem fX6_54 : FL RX6 54 6 6 := ⟨RX6, TX6, 11, rfl, by decide, gnX6, Or.inl (tm1_12 (List.mem_of_getElem? (i := 1) rfl) rfl)⟩
theorem pX6_54 : FP yX6_init 54 6 6 (.array (.object "LookAsideCache$Plan")) := ⟨RX6, TX6, 11, tyX6, rfl, by decide, gnX6, tyX6_ok, nmX6, by decide +kernel, Or.inl ⟨rfl, rfl, rfl, tm1_12 (List.mem_of_getElem? (i := 1) rfl) rfl⟩⟩
theorem fX6_59 : FL RX6 59 6 9 := ⟨RX6, TX6, 11, rfl, by decide, gnX6, Or.inl (tm1_12 (List.mem_of_getElem? (i := 4) rfl) rfl)⟩
theorem pX6_59 {y : MethodName} (hy : y.cls = RX6) : FP y 59 6 9 (.object "LookAsideCache$Plan") := ⟨RX6, TX6, 11, tyX6, rfl, by decide, gnX6, tyX6_ok, nmX6, by decide +kernel, Or.inr ⟨rfl, by rw [hy]; exact Or.inl (tm1_12 (List.mem_of_getElem? (i := 4) rfl) rfl)⟩⟩
theorem fX6_65 : FL RX6 65 6 7 := ⟨RX6, TX6, 11, rfl, by decide, gnX6, Or.inl (tm1_12 (List.mem_of_getElem? (i := 2) rfl) rfl)⟩
theorem pX6_65 : FP yX6_init 65 6 7 (.array (.array (.long))) := ⟨RX6, TX6, 11, tyX6, rfl, by decide, gnX6, tyX6_ok, nmX6, by decide +kernel, Or.inl ⟨rfl, rfl, rfl, tm1_12 (List.mem_of_getElem? (i := 2) rfl) rfl⟩⟩
theorem fX6_68 : FL RX6 68 6 8 := ⟨RX6, TX6, 11, rfl, by decide, gnX6, Or.inl (tm1_12 (List.mem_of_getElem? (i := 3) rfl) rfl)⟩
theorem pX6_68 : FP yX6_init 68 6 8 (.array (.int)) := ⟨RX6, TX6, 11, tyX6, rfl, by decide, gnX6, tyX6_ok, nmX6, by decide +kernel, Or.inl ⟨rfl, rfl, rfl, tm1_12 (List.mem_of_getElem? (i := 3) rfl) rfl⟩⟩
theorem fX6_78 : FL RX6 78 6 10 := ⟨RX6, TX6, 11, rfl, by decide, gnX6, Or.inl (tm1_12 (List.mem_of_getElem? (i := 5) rfl) rfl)⟩
theorem pX6_78 {y : MethodName} (hy : y.cls = RX6) : FP y 78 6 10 (.array (.int)) := ⟨RX6, TX6, 11, tyX6, rfl, by decide, gnX6, tyX6_ok, nmX6, by decide +kernel, Or.inr ⟨rfl, by rw [hy]; exact Or.inl (tm1_12 (List.mem_of_getElem? (i := 5) rfl) rfl)⟩⟩
theorem fX6_132 : FL RX6 132 0 2 := ⟨RX0, TX0, 4, rfl, by decide, gnX0, Or.inr ⟨RX6, tn1_3 (List.mem_of_getElem? (i := 10) rfl) rfl⟩⟩
theorem pX6_132 {y : MethodName} (hy : y.cls = RX6) : FP y 132 0 2 .int := ⟨RX0, TX0, 4, tyX0, rfl, by decide, gnX0, tyX0_ok, nmX0, by decide +kernel, Or.inr ⟨rfl, by rw [hy]; exact Or.inr ⟨RX6, tn1_3 (List.mem_of_getElem? (i := 10) rfl) rfl⟩⟩⟩
theorem fX6_139 : FL RX6 139 0 3 := ⟨RX0, TX0, 4, rfl, by decide, gnX0, Or.inr ⟨RX6, tn1_3 (List.mem_of_getElem? (i := 12) rfl) rfl⟩⟩
theorem pX6_139 {y : MethodName} (hy : y.cls = RX6) : FP y 139 0 3 .int := ⟨RX0, TX0, 4, tyX0, rfl, by decide, gnX0, tyX0_ok, nmX0, by decide +kernel, Or.inr ⟨rfl, by rw [hy]; exact Or.inr ⟨RX6, tn1_3 (List.mem_of_getElem? (i := 12) rfl) rfl⟩⟩⟩
theorem fX6_211 : FL RX6 211 5 0 := ⟨RX5, TX5, 1, rfl, by decide, gnX5, Or.inl (tm1_2 (List.mem_of_getElem? (i := 10) rfl) rfl)⟩
theorem fX6_248 : FL RX6 248 4 1 := ⟨RX4, TX4, 3, rfl, by decide, gnX4, Or.inr ⟨RX6, tn1_9 (List.mem_of_getElem? (i := 6) rfl) rfl⟩⟩
theorem pX6_248 {y : MethodName} (hy : y.cls = RX6) : FP y 248 4 1 .int := ⟨RX4, TX4, 3, tyX4, rfl, by decide, gnX4, tyX4_ok, nmX4, by decide +kernel, Or.inr ⟨rfl, by rw [hy]; exact Or.inr ⟨RX6, tn1_9 (List.mem_of_getElem? (i := 6) rfl) rfl⟩⟩⟩
theorem fX6_323 : FL RX6 323 2 3 := ⟨RX2, TX2, 4, rfl, by decide, gnX2, Or.inr ⟨RX6, tn1_10 (List.mem_of_getElem? (i := 12) rfl) rfl⟩⟩
theorem pX6_323 {y : MethodName} (hy : y.cls = RX6) : FP y 323 2 3 .int := ⟨RX2, TX2, 4, tyX2, rfl, by decide, gnX2, tyX2_ok, nmX2, by decide +kernel, Or.inr ⟨rfl, by rw [hy]; exact Or.inr ⟨RX6, tn1_10 (List.mem_of_getElem? (i := 12) rfl) rfl⟩⟩⟩
theorem fX0_13 : FL RX0 13 0 0 := ⟨RX0, TX0, 4, rfl, by decide, gnX0, Or.inl (tm1_3 (List.mem_of_getElem? (i := 7) rfl) rfl)⟩
theorem pX0_13 : FP yX0_init 13 0 0 (.array (.array (.int))) := ⟨RX0, TX0, 4, tyX0, rfl, by decide, gnX0, tyX0_ok, nmX0, by decide +kernel, Or.inl ⟨rfl, rfl, rfl, tm1_3 (List.mem_of_getElem? (i := 7) rfl) rfl⟩⟩
theorem fX0_17 : FL RX0 17 0 2 := ⟨RX0, TX0, 4, rfl, by decide, gnX0, Or.inl (tm1_3 (List.mem_of_getElem? (i := 9) rfl) rfl)⟩
theorem pX0_17 {y : MethodName} (hy : y.cls = RX0) : FP y 17 0 2 .int := ⟨RX0, TX0, 4, tyX0, rfl, by decide, gnX0, tyX0_ok, nmX0, by decide +kernel, Or.inr ⟨rfl, by rw [hy]; exact Or.inl (tm1_3 (List.mem_of_getElem? (i := 9) rfl) rfl)⟩⟩
theorem fX0_21 : FL RX0 21 0 3 := ⟨RX0, TX0, 4, rfl, by decide, gnX0, Or.inl (tm1_3 (List.mem_of_getElem? (i := 11) rfl) rfl)⟩
theorem pX0_21 {y : MethodName} (hy : y.cls = RX0) : FP y 21 0 3 .int := ⟨RX0, TX0, 4, tyX0, rfl, by decide, gnX0, tyX0_ok, nmX0, by decide +kernel, Or.inr ⟨rfl, by rw [hy]; exact Or.inl (tm1_3 (List.mem_of_getElem? (i := 11) rfl) rfl)⟩⟩
theorem fX0_28 : FL RX0 28 0 1 := ⟨RX0, TX0, 4, rfl, by decide, gnX0, Or.inl (tm1_3 (List.mem_of_getElem? (i := 8) rfl) rfl)⟩
theorem pX0_28 {y : MethodName} (hy : y.cls = RX0) : FP y 28 0 1 .int := ⟨RX0, TX0, 4, tyX0, rfl, by decide, gnX0, tyX0_ok, nmX0, by decide +kernel, Or.inr ⟨rfl, by rw [hy]; exact Or.inl (tm1_3 (List.mem_of_getElem? (i := 8) rfl) rfl)⟩⟩
theorem fX1_9 : FL RX1 9 1 1 := ⟨RX1, TX1, 10, rfl, by decide, gnX1, Or.inl (tm1_6 (List.mem_of_getElem? (i := 15) rfl) rfl)⟩
theorem pX1_9 : FP yX1_init 9 1 1 (.array (.int)) := ⟨RX1, TX1, 10, tyX1, rfl, by decide, gnX1, tyX1_ok, nmX1, by decide +kernel, Or.inl ⟨rfl, rfl, rfl, tm1_6 (List.mem_of_getElem? (i := 15) rfl) rfl⟩⟩
theorem fX1_15 : FL RX1 15 1 2 := ⟨RX1, TX1, 10, rfl, by decide, gnX1, Or.inl (tm1_7 (List.mem_of_getElem? (i := 0) rfl) rfl)⟩
theorem pX1_15 : FP yX1_init 15 1 2 (.array (.int)) := ⟨RX1, TX1, 10, tyX1, rfl, by decide, gnX1, tyX1_ok, nmX1, by decide +kernel, Or.inl ⟨rfl, rfl, rfl, tm1_7 (List.mem_of_getElem? (i := 0) rfl) rfl⟩⟩
theorem fX1_18 : FL RX1 18 1 3 := ⟨RX1, TX1, 10, rfl, by decide, gnX1, Or.inl (tm1_7 (List.mem_of_getElem? (i := 1) rfl) rfl)⟩
theorem pX1_18 : FP yX1_init 18 1 3 (.array (.int)) := ⟨RX1, TX1, 10, tyX1, rfl, by decide, gnX1, tyX1_ok, nmX1, by decide +kernel, Or.inl ⟨rfl, rfl, rfl, tm1_7 (List.mem_of_getElem? (i := 1) rfl) rfl⟩⟩
theorem fX1_21 : FL RX1 21 1 4 := ⟨RX1, TX1, 10, rfl, by decide, gnX1, Or.inl (tm1_7 (List.mem_of_getElem? (i := 2) rfl) rfl)⟩
theorem pX1_21 : FP yX1_init 21 1 4 (.array (.long)) := ⟨RX1, TX1, 10, tyX1, rfl, by decide, gnX1, tyX1_ok, nmX1, by decide +kernel, Or.inl ⟨rfl, rfl, rfl, tm1_7 (List.mem_of_getElem? (i := 2) rfl) rfl⟩⟩
theorem fX1_25 : FL RX1 25 1 0 := ⟨RX1, TX1, 10, rfl, by decide, gnX1, Or.inl (tm1_6 (List.mem_of_getElem? (i := 14) rfl) rfl)⟩
theorem pX1_25 : FP yX1_init 25 1 0 (.object "LookAsideCache$World") := ⟨RX1, TX1, 10, tyX1, rfl, by decide, gnX1, tyX1_ok, nmX1, by decide +kernel, Or.inl ⟨rfl, rfl, rfl, tm1_6 (List.mem_of_getElem? (i := 14) rfl) rfl⟩⟩
theorem fX1_29 : FL RX1 29 1 6 := ⟨RX1, TX1, 10, rfl, by decide, gnX1, Or.inl (tm1_7 (List.mem_of_getElem? (i := 4) rfl) rfl)⟩
theorem pX1_29 {y : MethodName} (hy : y.cls = RX1) : FP y 29 1 6 .int := ⟨RX1, TX1, 10, tyX1, rfl, by decide, gnX1, tyX1_ok, nmX1, by decide +kernel, Or.inr ⟨rfl, by rw [hy]; exact Or.inl (tm1_7 (List.mem_of_getElem? (i := 4) rfl) rfl)⟩⟩
theorem fX1_33 : FL RX1 33 1 7 := ⟨RX1, TX1, 10, rfl, by decide, gnX1, Or.inl (tm1_7 (List.mem_of_getElem? (i := 5) rfl) rfl)⟩
theorem pX1_33 {y : MethodName} (hy : y.cls = RX1) : FP y 33 1 7 .int := ⟨RX1, TX1, 10, tyX1, rfl, by decide, gnX1, tyX1_ok, nmX1, by decide +kernel, Or.inr ⟨rfl, by rw [hy]; exact Or.inl (tm1_7 (List.mem_of_getElem? (i := 5) rfl) rfl)⟩⟩
theorem fX1_39 : FL RX1 39 1 8 := ⟨RX1, TX1, 10, rfl, by decide, gnX1, Or.inl (tm1_7 (List.mem_of_getElem? (i := 6) rfl) rfl)⟩
theorem pX1_39 {y : MethodName} (hy : y.cls = RX1) : FP y 39 1 8 .int := ⟨RX1, TX1, 10, tyX1, rfl, by decide, gnX1, tyX1_ok, nmX1, by decide +kernel, Or.inr ⟨rfl, by rw [hy]; exact Or.inl (tm1_7 (List.mem_of_getElem? (i := 6) rfl) rfl)⟩⟩
theorem fX1_42 : FL RX1 42 1 9 := ⟨RX1, TX1, 10, rfl, by decide, gnX1, Or.inl (tm1_7 (List.mem_of_getElem? (i := 7) rfl) rfl)⟩
theorem pX1_42 {y : MethodName} (hy : y.cls = RX1) : FP y 42 1 9 .int := ⟨RX1, TX1, 10, tyX1, rfl, by decide, gnX1, tyX1_ok, nmX1, by decide +kernel, Or.inr ⟨rfl, by rw [hy]; exact Or.inl (tm1_7 (List.mem_of_getElem? (i := 7) rfl) rfl)⟩⟩
theorem fX1_56 : FL RX1 56 5 0 := ⟨RX5, TX5, 1, rfl, by decide, gnX5, Or.inl (tm1_2 (List.mem_of_getElem? (i := 9) rfl) rfl)⟩
theorem fX1_68 : FL RX1 68 1 5 := ⟨RX1, TX1, 10, rfl, by decide, gnX1, Or.inl (tm1_7 (List.mem_of_getElem? (i := 3) rfl) rfl)⟩
theorem pX1_68 {y : MethodName} (hy : y.cls = RX1) : FP y 68 1 5 .int := ⟨RX1, TX1, 10, tyX1, rfl, by decide, gnX1, tyX1_ok, nmX1, by decide +kernel, Or.inr ⟨rfl, by rw [hy]; exact Or.inl (tm1_7 (List.mem_of_getElem? (i := 3) rfl) rfl)⟩⟩
theorem fX1_89 : FL RX1 89 2 3 := ⟨RX2, TX2, 4, rfl, by decide, gnX2, Or.inr ⟨RX6, tn1_10 (List.mem_of_getElem? (i := 11) rfl) rfl⟩⟩
theorem pX1_89 {y : MethodName} (hy : y.cls = RX1) : FP y 89 2 3 .int := ⟨RX2, TX2, 4, tyX2, rfl, by decide, gnX2, tyX2_ok, nmX2, by decide +kernel, Or.inr ⟨rfl, by rw [hy]; exact Or.inr ⟨RX6, tn1_10 (List.mem_of_getElem? (i := 11) rfl) rfl⟩⟩⟩
theorem fX2_9 : FL RX2 9 2 0 := ⟨RX2, TX2, 4, rfl, by decide, gnX2, Or.inl (tm1_10 (List.mem_of_getElem? (i := 6) rfl) rfl)⟩
theorem pX2_9 : FP yX2_init 9 2 0 (.array (.int)) := ⟨RX2, TX2, 4, tyX2, rfl, by decide, gnX2, tyX2_ok, nmX2, by decide +kernel, Or.inl ⟨rfl, rfl, rfl, tm1_10 (List.mem_of_getElem? (i := 6) rfl) rfl⟩⟩
theorem fX2_15 : FL RX2 15 2 1 := ⟨RX2, TX2, 4, rfl, by decide, gnX2, Or.inl (tm1_10 (List.mem_of_getElem? (i := 7) rfl) rfl)⟩
theorem pX2_15 : FP yX2_init 15 2 1 (.array (.int)) := ⟨RX2, TX2, 4, tyX2, rfl, by decide, gnX2, tyX2_ok, nmX2, by decide +kernel, Or.inl ⟨rfl, rfl, rfl, tm1_10 (List.mem_of_getElem? (i := 7) rfl) rfl⟩⟩
theorem fX2_18 : FL RX2 18 2 2 := ⟨RX2, TX2, 4, rfl, by decide, gnX2, Or.inl (tm1_10 (List.mem_of_getElem? (i := 8) rfl) rfl)⟩
theorem pX2_18 : FP yX2_init 18 2 2 (.array (.int)) := ⟨RX2, TX2, 4, tyX2, rfl, by decide, gnX2, tyX2_ok, nmX2, by decide +kernel, Or.inl ⟨rfl, rfl, rfl, tm1_10 (List.mem_of_getElem? (i := 8) rfl) rfl⟩⟩
theorem fX2_21 : FL RX2 21 2 3 := ⟨RX2, TX2, 4, rfl, by decide, gnX2, Or.inl (tm1_10 (List.mem_of_getElem? (i := 9) rfl) rfl)⟩
theorem pX2_21 {y : MethodName} (hy : y.cls = RX2) : FP y 21 2 3 .int := ⟨RX2, TX2, 4, tyX2, rfl, by decide, gnX2, tyX2_ok, nmX2, by decide +kernel, Or.inr ⟨rfl, by rw [hy]; exact Or.inl (tm1_10 (List.mem_of_getElem? (i := 9) rfl) rfl)⟩⟩
theorem fX3_9 : FL RX3 9 3 0 := ⟨RX3, TX3, 5, rfl, by decide, gnX3, Or.inl (tm1_5 (List.mem_of_getElem? (i := 8) rfl) rfl)⟩
theorem pX3_9 : FP yX3_init 9 3 0 (.object "LookAsideCache$World") := ⟨RX3, TX3, 5, tyX3, rfl, by decide, gnX3, tyX3_ok, nmX3, by decide +kernel, Or.inl ⟨rfl, rfl, rfl, tm1_5 (List.mem_of_getElem? (i := 8) rfl) rfl⟩⟩
theorem fX3_25 : FL RX3 25 3 1 := ⟨RX3, TX3, 5, rfl, by decide, gnX3, Or.inl (tm1_5 (List.mem_of_getElem? (i := 9) rfl) rfl)⟩
theorem pX3_25 {y : MethodName} (hy : y.cls = RX3) : FP y 25 3 1 .int := ⟨RX3, TX3, 5, tyX3, rfl, by decide, gnX3, tyX3_ok, nmX3, by decide +kernel, Or.inr ⟨rfl, by rw [hy]; exact Or.inl (tm1_5 (List.mem_of_getElem? (i := 9) rfl) rfl)⟩⟩
theorem fX3_45 : FL RX3 45 3 3 := ⟨RX3, TX3, 5, rfl, by decide, gnX3, Or.inl (tm1_5 (List.mem_of_getElem? (i := 11) rfl) rfl)⟩
theorem pX3_45 {y : MethodName} (hy : y.cls = RX3) : FP y 45 3 3 .int := ⟨RX3, TX3, 5, tyX3, rfl, by decide, gnX3, tyX3_ok, nmX3, by decide +kernel, Or.inr ⟨rfl, by rw [hy]; exact Or.inl (tm1_5 (List.mem_of_getElem? (i := 11) rfl) rfl)⟩⟩
theorem fX3_48 : FL RX3 48 3 2 := ⟨RX3, TX3, 5, rfl, by decide, gnX3, Or.inl (tm1_5 (List.mem_of_getElem? (i := 10) rfl) rfl)⟩
theorem pX3_48 {y : MethodName} (hy : y.cls = RX3) : FP y 48 3 2 .int := ⟨RX3, TX3, 5, tyX3, rfl, by decide, gnX3, tyX3_ok, nmX3, by decide +kernel, Or.inr ⟨rfl, by rw [hy]; exact Or.inl (tm1_5 (List.mem_of_getElem? (i := 10) rfl) rfl)⟩⟩
theorem fX3_51 : FL RX3 51 3 4 := ⟨RX3, TX3, 5, rfl, by decide, gnX3, Or.inl (tm1_5 (List.mem_of_getElem? (i := 12) rfl) rfl)⟩
theorem pX3_51 {y : MethodName} (hy : y.cls = RX3) : FP y 51 3 4 .int := ⟨RX3, TX3, 5, tyX3, rfl, by decide, gnX3, tyX3_ok, nmX3, by decide +kernel, Or.inr ⟨rfl, by rw [hy]; exact Or.inl (tm1_5 (List.mem_of_getElem? (i := 12) rfl) rfl)⟩⟩
theorem fX4_9 : FL RX4 9 4 0 := ⟨RX4, TX4, 3, rfl, by decide, gnX4, Or.inl (tm1_9 (List.mem_of_getElem? (i := 4) rfl) rfl)⟩
theorem pX4_9 : FP yX4_init 9 4 0 (.array (.int)) := ⟨RX4, TX4, 3, tyX4, rfl, by decide, gnX4, tyX4_ok, nmX4, by decide +kernel, Or.inl ⟨rfl, rfl, rfl, tm1_9 (List.mem_of_getElem? (i := 4) rfl) rfl⟩⟩
theorem fX4_15 : FL RX4 15 4 1 := ⟨RX4, TX4, 3, rfl, by decide, gnX4, Or.inl (tm1_9 (List.mem_of_getElem? (i := 5) rfl) rfl)⟩
theorem pX4_15 {y : MethodName} (hy : y.cls = RX4) : FP y 15 4 1 .int := ⟨RX4, TX4, 3, tyX4, rfl, by decide, gnX4, tyX4_ok, nmX4, by decide +kernel, Or.inr ⟨rfl, by rw [hy]; exact Or.inl (tm1_9 (List.mem_of_getElem? (i := 5) rfl) rfl)⟩⟩
theorem fX4_19 : FL RX4 19 2 3 := ⟨RX2, TX2, 4, rfl, by decide, gnX2, Or.inr ⟨RX6, tn1_10 (List.mem_of_getElem? (i := 10) rfl) rfl⟩⟩
theorem pX4_19 {y : MethodName} (hy : y.cls = RX4) : FP y 19 2 3 .int := ⟨RX2, TX2, 4, tyX2, rfl, by decide, gnX2, tyX2_ok, nmX2, by decide +kernel, Or.inr ⟨rfl, by rw [hy]; exact Or.inr ⟨RX6, tn1_10 (List.mem_of_getElem? (i := 10) rfl) rfl⟩⟩⟩
theorem fX4_24 : FL RX4 24 4 2 := ⟨RX4, TX4, 3, rfl, by decide, gnX4, Or.inl (tm1_9 (List.mem_of_getElem? (i := 7) rfl) rfl)⟩
theorem pX4_24 {y : MethodName} (hy : y.cls = RX4) : FP y 24 4 2 .int := ⟨RX4, TX4, 3, tyX4, rfl, by decide, gnX4, tyX4_ok, nmX4, by decide +kernel, Or.inr ⟨rfl, by rw [hy]; exact Or.inl (tm1_9 (List.mem_of_getElem? (i := 7) rfl) rfl)⟩⟩
theorem fX5_11 : FL RX5 11 5 0 := ⟨RX5, TX5, 1, rfl, by decide, gnX5, Or.inl (tm1_2 (List.mem_of_getElem? (i := 8) rfl) rfl)⟩
theorem pX5_11 : FP yX5_init 11 5 0 (.array (.int)) := ⟨RX5, TX5, 1, tyX5, rfl, by decide, gnX5, tyX5_ok, nmX5, by decide +kernel, Or.inl ⟨rfl, rfl, rfl, tm1_2 (List.mem_of_getElem? (i := 8) rfl) rfl⟩⟩
theorem fX7_9 : FL RX7 9 7 0 := ⟨RX7, TX7, 30, rfl, by decide, gnX7, Or.inl (tm4_13 (List.mem_of_getElem? (i := 13) rfl) rfl)⟩
theorem pX7_9 : FP yX7_init 9 7 0 (.array (.int)) := ⟨RX7, TX7, 30, tyX7, rfl, by decide, gnX7, tyX7_ok, nmX7, by decide +kernel, Or.inl ⟨rfl, rfl, rfl, tm4_13 (List.mem_of_getElem? (i := 13) rfl) rfl⟩⟩
theorem fX7_13 : FL RX7 13 7 1 := ⟨RX7, TX7, 30, rfl, by decide, gnX7, Or.inl (tm4_13 (List.mem_of_getElem? (i := 14) rfl) rfl)⟩
theorem pX7_13 : FP yX7_init 13 7 1 (.array (.int)) := ⟨RX7, TX7, 30, tyX7, rfl, by decide, gnX7, tyX7_ok, nmX7, by decide +kernel, Or.inl ⟨rfl, rfl, rfl, tm4_13 (List.mem_of_getElem? (i := 14) rfl) rfl⟩⟩
theorem fX7_16 : FL RX7 16 7 4 := ⟨RX7, TX7, 30, rfl, by decide, gnX7, Or.inl (tm4_14 (List.mem_of_getElem? (i := 1) rfl) rfl)⟩
theorem pX7_16 : FP yX7_init 16 7 4 (.array (.int)) := ⟨RX7, TX7, 30, tyX7, rfl, by decide, gnX7, tyX7_ok, nmX7, by decide +kernel, Or.inl ⟨rfl, rfl, rfl, tm4_14 (List.mem_of_getElem? (i := 1) rfl) rfl⟩⟩
theorem fX7_19 : FL RX7 19 7 8 := ⟨RX7, TX7, 30, rfl, by decide, gnX7, Or.inl (tm4_14 (List.mem_of_getElem? (i := 5) rfl) rfl)⟩
theorem pX7_19 : FP yX7_init 19 7 8 (.array (.int)) := ⟨RX7, TX7, 30, tyX7, rfl, by decide, gnX7, tyX7_ok, nmX7, by decide +kernel, Or.inl ⟨rfl, rfl, rfl, tm4_14 (List.mem_of_getElem? (i := 5) rfl) rfl⟩⟩
theorem fX7_22 : FL RX7 22 7 9 := ⟨RX7, TX7, 30, rfl, by decide, gnX7, Or.inl (tm4_14 (List.mem_of_getElem? (i := 6) rfl) rfl)⟩
theorem pX7_22 : FP yX7_init 22 7 9 (.array (.int)) := ⟨RX7, TX7, 30, tyX7, rfl, by decide, gnX7, tyX7_ok, nmX7, by decide +kernel, Or.inl ⟨rfl, rfl, rfl, tm4_14 (List.mem_of_getElem? (i := 6) rfl) rfl⟩⟩
theorem fX7_25 : FL RX7 25 7 10 := ⟨RX7, TX7, 30, rfl, by decide, gnX7, Or.inl (tm4_14 (List.mem_of_getElem? (i := 7) rfl) rfl)⟩
theorem pX7_25 : FP yX7_init 25 7 10 (.array (.int)) := ⟨RX7, TX7, 30, tyX7, rfl, by decide, gnX7, tyX7_ok, nmX7, by decide +kernel, Or.inl ⟨rfl, rfl, rfl, tm4_14 (List.mem_of_getElem? (i := 7) rfl) rfl⟩⟩
theorem fX7_44 : FL RX7 44 7 11 := ⟨RX7, TX7, 30, rfl, by decide, gnX7, Or.inl (tm4_14 (List.mem_of_getElem? (i := 8) rfl) rfl)⟩
theorem pX7_44 : FP yX7_init 44 7 11 (.array (.long)) := ⟨RX7, TX7, 30, tyX7, rfl, by decide, gnX7, tyX7_ok, nmX7, by decide +kernel, Or.inl ⟨rfl, rfl, rfl, tm4_14 (List.mem_of_getElem? (i := 8) rfl) rfl⟩⟩
theorem fX7_48 : FL RX7 48 7 12 := ⟨RX7, TX7, 30, rfl, by decide, gnX7, Or.inl (tm4_14 (List.mem_of_getElem? (i := 9) rfl) rfl)⟩
theorem pX7_48 : FP yX7_init 48 7 12 (.array (.int)) := ⟨RX7, TX7, 30, tyX7, rfl, by decide, gnX7, tyX7_ok, nmX7, by decide +kernel, Or.inl ⟨rfl, rfl, rfl, tm4_14 (List.mem_of_getElem? (i := 9) rfl) rfl⟩⟩
theorem fX7_51 : FL RX7 51 7 13 := ⟨RX7, TX7, 30, rfl, by decide, gnX7, Or.inl (tm4_14 (List.mem_of_getElem? (i := 10) rfl) rfl)⟩
theorem pX7_51 : FP yX7_init 51 7 13 (.array (.int)) := ⟨RX7, TX7, 30, tyX7, rfl, by decide, gnX7, tyX7_ok, nmX7, by decide +kernel, Or.inl ⟨rfl, rfl, rfl, tm4_14 (List.mem_of_getElem? (i := 10) rfl) rfl⟩⟩
theorem fX7_54 : FL RX7 54 7 14 := ⟨RX7, TX7, 30, rfl, by decide, gnX7, Or.inl (tm4_14 (List.mem_of_getElem? (i := 11) rfl) rfl)⟩
theorem pX7_54 : FP yX7_init 54 7 14 (.array (.int)) := ⟨RX7, TX7, 30, tyX7, rfl, by decide, gnX7, tyX7_ok, nmX7, by decide +kernel, Or.inl ⟨rfl, rfl, rfl, tm4_14 (List.mem_of_getElem? (i := 11) rfl) rfl⟩⟩
theorem fX7_57 : FL RX7 57 7 15 := ⟨RX7, TX7, 30, rfl, by decide, gnX7, Or.inl (tm4_14 (List.mem_of_getElem? (i := 12) rfl) rfl)⟩
theorem pX7_57 : FP yX7_init 57 7 15 (.array (.int)) := ⟨RX7, TX7, 30, tyX7, rfl, by decide, gnX7, tyX7_ok, nmX7, by decide +kernel, Or.inl ⟨rfl, rfl, rfl, tm4_14 (List.mem_of_getElem? (i := 12) rfl) rfl⟩⟩
theorem fX7_60 : FL RX7 60 7 16 := ⟨RX7, TX7, 30, rfl, by decide, gnX7, Or.inl (tm4_14 (List.mem_of_getElem? (i := 13) rfl) rfl)⟩
theorem pX7_60 : FP yX7_init 60 7 16 (.array (.boolean)) := ⟨RX7, TX7, 30, tyX7, rfl, by decide, gnX7, tyX7_ok, nmX7, by decide +kernel, Or.inl ⟨rfl, rfl, rfl, tm4_14 (List.mem_of_getElem? (i := 13) rfl) rfl⟩⟩
theorem fX7_64 : FL RX7 64 7 23 := ⟨RX7, TX7, 30, rfl, by decide, gnX7, Or.inl (tm5_0 (List.mem_of_getElem? (i := 4) rfl) rfl)⟩
theorem pX7_64 : FP yX7_init 64 7 23 (.array (.boolean)) := ⟨RX7, TX7, 30, tyX7, rfl, by decide, gnX7, tyX7_ok, nmX7, by decide +kernel, Or.inl ⟨rfl, rfl, rfl, tm5_0 (List.mem_of_getElem? (i := 4) rfl) rfl⟩⟩
theorem fX7_67 : FL RX7 67 7 24 := ⟨RX7, TX7, 30, rfl, by decide, gnX7, Or.inl (tm5_0 (List.mem_of_getElem? (i := 5) rfl) rfl)⟩
theorem pX7_67 : FP yX7_init 67 7 24 (.array (.boolean)) := ⟨RX7, TX7, 30, tyX7, rfl, by decide, gnX7, tyX7_ok, nmX7, by decide +kernel, Or.inl ⟨rfl, rfl, rfl, tm5_0 (List.mem_of_getElem? (i := 5) rfl) rfl⟩⟩
theorem fX7_70 : FL RX7 70 7 25 := ⟨RX7, TX7, 30, rfl, by decide, gnX7, Or.inl (tm5_0 (List.mem_of_getElem? (i := 6) rfl) rfl)⟩
theorem pX7_70 : FP yX7_init 70 7 25 (.array (.boolean)) := ⟨RX7, TX7, 30, tyX7, rfl, by decide, gnX7, tyX7_ok, nmX7, by decide +kernel, Or.inl ⟨rfl, rfl, rfl, tm5_0 (List.mem_of_getElem? (i := 6) rfl) rfl⟩⟩
theorem fX7_73 : FL RX7 73 7 26 := ⟨RX7, TX7, 30, rfl, by decide, gnX7, Or.inl (tm5_0 (List.mem_of_getElem? (i := 7) rfl) rfl)⟩
theorem pX7_73 : FP yX7_init 73 7 26 (.array (.long)) := ⟨RX7, TX7, 30, tyX7, rfl, by decide, gnX7, tyX7_ok, nmX7, by decide +kernel, Or.inl ⟨rfl, rfl, rfl, tm5_0 (List.mem_of_getElem? (i := 7) rfl) rfl⟩⟩
theorem fX7_76 : FL RX7 76 7 27 := ⟨RX7, TX7, 30, rfl, by decide, gnX7, Or.inl (tm5_0 (List.mem_of_getElem? (i := 8) rfl) rfl)⟩
theorem pX7_76 : FP yX7_init 76 7 27 (.array (.int)) := ⟨RX7, TX7, 30, tyX7, rfl, by decide, gnX7, tyX7_ok, nmX7, by decide +kernel, Or.inl ⟨rfl, rfl, rfl, tm5_0 (List.mem_of_getElem? (i := 8) rfl) rfl⟩⟩
theorem fX7_79 : FL RX7 79 7 28 := ⟨RX7, TX7, 30, rfl, by decide, gnX7, Or.inl (tm5_0 (List.mem_of_getElem? (i := 9) rfl) rfl)⟩
theorem pX7_79 : FP yX7_init 79 7 28 (.array (.int)) := ⟨RX7, TX7, 30, tyX7, rfl, by decide, gnX7, tyX7_ok, nmX7, by decide +kernel, Or.inl ⟨rfl, rfl, rfl, tm5_0 (List.mem_of_getElem? (i := 9) rfl) rfl⟩⟩
theorem fX7_148 : FL RX7 148 7 2 := ⟨RX7, TX7, 30, rfl, by decide, gnX7, Or.inl (tm4_13 (List.mem_of_getElem? (i := 15) rfl) rfl)⟩
theorem pX7_148 {y : MethodName} (hy : y.cls = RX7) : FP y 148 7 2 .int := ⟨RX7, TX7, 30, tyX7, rfl, by decide, gnX7, tyX7_ok, nmX7, by decide +kernel, Or.inr ⟨rfl, by rw [hy]; exact Or.inl (tm4_13 (List.mem_of_getElem? (i := 15) rfl) rfl)⟩⟩
theorem fX7_152 : FL RX7 152 7 3 := ⟨RX7, TX7, 30, rfl, by decide, gnX7, Or.inl (tm4_14 (List.mem_of_getElem? (i := 0) rfl) rfl)⟩
theorem pX7_152 {y : MethodName} (hy : y.cls = RX7) : FP y 152 7 3 .int := ⟨RX7, TX7, 30, tyX7, rfl, by decide, gnX7, tyX7_ok, nmX7, by decide +kernel, Or.inr ⟨rfl, by rw [hy]; exact Or.inl (tm4_14 (List.mem_of_getElem? (i := 0) rfl) rfl)⟩⟩
theorem fX7_218 : FL RX7 218 7 5 := ⟨RX7, TX7, 30, rfl, by decide, gnX7, Or.inl (tm4_14 (List.mem_of_getElem? (i := 2) rfl) rfl)⟩
theorem pX7_218 {y : MethodName} (hy : y.cls = RX7) : FP y 218 7 5 .int := ⟨RX7, TX7, 30, tyX7, rfl, by decide, gnX7, tyX7_ok, nmX7, by decide +kernel, Or.inr ⟨rfl, by rw [hy]; exact Or.inl (tm4_14 (List.mem_of_getElem? (i := 2) rfl) rfl)⟩⟩
theorem fX7_221 : FL RX7 221 7 6 := ⟨RX7, TX7, 30, rfl, by decide, gnX7, Or.inl (tm4_14 (List.mem_of_getElem? (i := 3) rfl) rfl)⟩
theorem pX7_221 {y : MethodName} (hy : y.cls = RX7) : FP y 221 7 6 .int := ⟨RX7, TX7, 30, tyX7, rfl, by decide, gnX7, tyX7_ok, nmX7, by decide +kernel, Or.inr ⟨rfl, by rw [hy]; exact Or.inl (tm4_14 (List.mem_of_getElem? (i := 3) rfl) rfl)⟩⟩
theorem fX7_228 : FL RX7 228 7 7 := ⟨RX7, TX7, 30, rfl, by decide, gnX7, Or.inl (tm4_14 (List.mem_of_getElem? (i := 4) rfl) rfl)⟩
theorem pX7_228 {y : MethodName} (hy : y.cls = RX7) : FP y 228 7 7 .int := ⟨RX7, TX7, 30, tyX7, rfl, by decide, gnX7, tyX7_ok, nmX7, by decide +kernel, Or.inr ⟨rfl, by rw [hy]; exact Or.inl (tm4_14 (List.mem_of_getElem? (i := 4) rfl) rfl)⟩⟩
theorem fX7_257 : FL RX7 257 7 17 := ⟨RX7, TX7, 30, rfl, by decide, gnX7, Or.inl (tm4_14 (List.mem_of_getElem? (i := 14) rfl) rfl)⟩
theorem pX7_257 {y : MethodName} (hy : y.cls = RX7) : FP y 257 7 17 .int := ⟨RX7, TX7, 30, tyX7, rfl, by decide, gnX7, tyX7_ok, nmX7, by decide +kernel, Or.inr ⟨rfl, by rw [hy]; exact Or.inl (tm4_14 (List.mem_of_getElem? (i := 14) rfl) rfl)⟩⟩
theorem fX7_260 : FL RX7 260 7 18 := ⟨RX7, TX7, 30, rfl, by decide, gnX7, Or.inl (tm4_14 (List.mem_of_getElem? (i := 15) rfl) rfl)⟩
theorem pX7_260 {y : MethodName} (hy : y.cls = RX7) : FP y 260 7 18 .int := ⟨RX7, TX7, 30, tyX7, rfl, by decide, gnX7, tyX7_ok, nmX7, by decide +kernel, Or.inr ⟨rfl, by rw [hy]; exact Or.inl (tm4_14 (List.mem_of_getElem? (i := 15) rfl) rfl)⟩⟩
theorem fX7_263 : FL RX7 263 7 19 := ⟨RX7, TX7, 30, rfl, by decide, gnX7, Or.inl (tm5_0 (List.mem_of_getElem? (i := 0) rfl) rfl)⟩
theorem pX7_263 {y : MethodName} (hy : y.cls = RX7) : FP y 263 7 19 .int := ⟨RX7, TX7, 30, tyX7, rfl, by decide, gnX7, tyX7_ok, nmX7, by decide +kernel, Or.inr ⟨rfl, by rw [hy]; exact Or.inl (tm5_0 (List.mem_of_getElem? (i := 0) rfl) rfl)⟩⟩
theorem fX7_269 : FL RX7 269 7 20 := ⟨RX7, TX7, 30, rfl, by decide, gnX7, Or.inl (tm5_0 (List.mem_of_getElem? (i := 1) rfl) rfl)⟩
theorem pX7_269 {y : MethodName} (hy : y.cls = RX7) : FP y 269 7 20 .int := ⟨RX7, TX7, 30, tyX7, rfl, by decide, gnX7, tyX7_ok, nmX7, by decide +kernel, Or.inr ⟨rfl, by rw [hy]; exact Or.inl (tm5_0 (List.mem_of_getElem? (i := 1) rfl) rfl)⟩⟩
theorem fX7_272 : FL RX7 272 7 21 := ⟨RX7, TX7, 30, rfl, by decide, gnX7, Or.inl (tm5_0 (List.mem_of_getElem? (i := 2) rfl) rfl)⟩
theorem pX7_272 {y : MethodName} (hy : y.cls = RX7) : FP y 272 7 21 .int := ⟨RX7, TX7, 30, tyX7, rfl, by decide, gnX7, tyX7_ok, nmX7, by decide +kernel, Or.inr ⟨rfl, by rw [hy]; exact Or.inl (tm5_0 (List.mem_of_getElem? (i := 2) rfl) rfl)⟩⟩
theorem fX7_275 : FL RX7 275 7 22 := ⟨RX7, TX7, 30, rfl, by decide, gnX7, Or.inl (tm5_0 (List.mem_of_getElem? (i := 3) rfl) rfl)⟩
theorem pX7_275 {y : MethodName} (hy : y.cls = RX7) : FP y 275 7 22 .int := ⟨RX7, TX7, 30, tyX7, rfl, by decide, gnX7, tyX7_ok, nmX7, by decide +kernel, Or.inr ⟨rfl, by rw [hy]; exact Or.inl (tm5_0 (List.mem_of_getElem? (i := 3) rfl) rfl)⟩⟩
theorem fX7_348 : FL RX7 348 7 29 := ⟨RX7, TX7, 30, rfl, by decide, gnX7, Or.inl (tm5_0 (List.mem_of_getElem? (i := 10) rfl) rfl)⟩
theorem pX7_348 {y : MethodName} (hy : y.cls = RX7) : FP y 348 7 29 .boolean := ⟨RX7, TX7, 30, tyX7, rfl, by decide, gnX7, tyX7_ok, nmX7, by decide +kernel, Or.inr ⟨rfl, by rw [hy]; exact Or.inl (tm5_0 (List.mem_of_getElem? (i := 10) rfl) rfl)⟩⟩
theorem cX1_38 : Cond.constant RX1 38 (Int32.ofInt (2147483647)) ∈ gdT := tm4_4 (List.mem_of_getElem? (i := 7) rfl) rfl
theorem cX1_55 : Cond.constant RX1 55 (Int32.ofInt (1000000)) ∈ gdT := tm4_4 (List.mem_of_getElem? (i := 15) rfl) rfl
theorem cX7_268 : Cond.constant RX7 268 (Int32.ofInt (2147483647)) ∈ gdT := tm6_6 (List.mem_of_getElem? (i := 6) rfl) rfl
theorem cJ6_265 : Cond.constant RJ6 265 (Int32.ofInt (1431655765)) ∈ gdT := tm2_6 (List.mem_of_getElem? (i := 4) rfl) rfl
theorem cJ6_266 : Cond.constant RJ6 266 (Int32.ofInt (858993459)) ∈ gdT := tm2_6 (List.mem_of_getElem? (i := 5) rfl) rfl
theorem cJ6_267 : Cond.constant RJ6 267 (Int32.ofInt (252645135)) ∈ gdT := tm2_6 (List.mem_of_getElem? (i := 6) rfl) rfl
theorem cX6_277 : Cond.constantLong RX6 277 (Int64.ofInt (-9223372036854775808)) ∈ gdT := tm4_9 (List.mem_of_getElem? (i := 9) rfl) rfl
theorem cX6_313 : Cond.constantLong RX6 313 (Int64.ofInt (10)) ∈ gdT := tm3_10 (List.mem_of_getElem? (i := 14) rfl) rfl
theorem cX6_326 : Cond.constantLong RX6 326 (Int64.ofInt (1000000)) ∈ gdT := tm4_10 (List.mem_of_getElem? (i := 2) rfl) rfl
theorem cX6_328 : Cond.constantLong RX6 328 (Int64.ofInt (1000)) ∈ gdT := tm4_10 (List.mem_of_getElem? (i := 11) rfl) rfl
theorem cL_162 : Cond.constantLong RL 162 (Int64.ofInt (4294967295)) ∈ gdT := tm6_13 (List.mem_of_getElem? (i := 8) rfl) rfl
theorem cX7_28 : Cond.constantLong RX7 28 (Int64.ofInt (7348)) ∈ gdT := tm4_13 (List.mem_of_getElem? (i := 1) rfl) rfl
theorem cX7_30 : Cond.constantLong RX7 30 (Int64.ofInt (409067)) ∈ gdT := tm4_13 (List.mem_of_getElem? (i := 2) rfl) rfl
theorem cX7_32 : Cond.constantLong RX7 32 (Int64.ofInt (206220)) ∈ gdT := tm4_13 (List.mem_of_getElem? (i := 3) rfl) rfl
theorem cX7_34 : Cond.constantLong RX7 34 (Int64.ofInt (24716933)) ∈ gdT := tm4_13 (List.mem_of_getElem? (i := 4) rfl) rfl
theorem cX7_36 : Cond.constantLong RX7 36 (Int64.ofInt (1589657)) ∈ gdT := tm4_13 (List.mem_of_getElem? (i := 5) rfl) rfl
theorem cX7_38 : Cond.constantLong RX7 38 (Int64.ofInt (664683)) ∈ gdT := tm4_13 (List.mem_of_getElem? (i := 6) rfl) rfl
theorem cX7_40 : Cond.constantLong RX7 40 (Int64.ofInt (114052)) ∈ gdT := tm4_13 (List.mem_of_getElem? (i := 7) rfl) rfl
theorem cX7_42 : Cond.constantLong RX7 42 (Int64.ofInt (755277)) ∈ gdT := tm4_13 (List.mem_of_getElem? (i := 8) rfl) rfl
theorem cX7_92 : Cond.constantLong RX7 92 (Int64.ofInt (5)) ∈ gdT := tm5_5 (List.mem_of_getElem? (i := 8) rfl) rfl
theorem cX7_98 : Cond.constantLong RX7 98 (Int64.ofInt (9)) ∈ gdT := tm5_5 (List.mem_of_getElem? (i := 15) rfl) rfl
theorem cX7_100 : Cond.constantLong RX7 100 (Int64.ofInt (2)) ∈ gdT := tm5_11 (List.mem_of_getElem? (i := 12) rfl) rfl
theorem cX7_173 : Cond.constantLong RX7 173 (Int64.ofInt (999)) ∈ gdT := tm5_10 (List.mem_of_getElem? (i := 12) rfl) rfl
theorem cX7_185 : Cond.constantLong RX7 185 (Int64.ofInt (50)) ∈ gdT := tm5_12 (List.mem_of_getElem? (i := 5) rfl) rfl
theorem cX7_193 : Cond.constantLong RX7 193 (Int64.ofInt (6)) ∈ gdT := tm5_13 (List.mem_of_getElem? (i := 9) rfl) rfl
theorem cX7_195 : Cond.constantLong RX7 195 (Int64.ofInt (3)) ∈ gdT := tm6_0 (List.mem_of_getElem? (i := 10) rfl) rfl
theorem cX7_201 : Cond.constantLong RX7 201 (Int64.ofInt (-1)) ∈ gdT := tm6_2 (List.mem_of_getElem? (i := 3) rfl) rfl
theorem cX7_206 : Cond.constantLong RX7 206 (Int64.ofInt (10000)) ∈ gdT := tm6_2 (List.mem_of_getElem? (i := 7) rfl) rfl
theorem cX7_212 : Cond.constantLong RX7 212 (Int64.ofInt (1000)) ∈ gdT := tm6_2 (List.mem_of_getElem? (i := 8) rfl) rfl
theorem cX7_214 : Cond.constantLong RX7 214 (Int64.ofInt (10)) ∈ gdT := tm6_2 (List.mem_of_getElem? (i := 9) rfl) rfl
theorem cX7_216 : Cond.constantLong RX7 216 (Int64.ofInt (255)) ∈ gdT := tm6_3 (List.mem_of_getElem? (i := 10) rfl) rfl
theorem cX7_224 : Cond.constantLong RX7 224 (Int64.ofInt (48)) ∈ gdT := tm6_5 (List.mem_of_getElem? (i := 6) rfl) rfl
theorem cX7_226 : Cond.constantLong RX7 226 (Int64.ofInt (57)) ∈ gdT := tm6_5 (List.mem_of_getElem? (i := 7) rfl) rfl
theorem cX7_239 : Cond.constantLong RX7 239 (Int64.ofInt (97)) ∈ gdT := tm6_4 (List.mem_of_getElem? (i := 11) rfl) rfl
theorem cX7_241 : Cond.constantLong RX7 241 (Int64.ofInt (122)) ∈ gdT := tm6_4 (List.mem_of_getElem? (i := 12) rfl) rfl
theorem cX7_243 : Cond.constantLong RX7 243 (Int64.ofInt (32)) ∈ gdT := tm6_4 (List.mem_of_getElem? (i := 13) rfl) rfl
theorem cX7_255 : Cond.constantLong RX7 255 (Int64.ofInt (63)) ∈ gdT := tm6_6 (List.mem_of_getElem? (i := 0) rfl) rfl
theorem cX7_308 : Cond.constantLong RX7 308 (Int64.ofInt (4)) ∈ gdT := tm6_6 (List.mem_of_getElem? (i := 1) rfl) rfl
theorem cX7_340 : Cond.constantLong RX7 340 (Int64.ofInt (-9223372036854775808)) ∈ gdT := tm6_12 (List.mem_of_getElem? (i := 1) rfl) rfl
theorem cX7_342 : Cond.constantLong RX7 342 (Int64.ofInt (1000000)) ∈ gdT := tm6_12 (List.mem_of_getElem? (i := 6) rfl) rfl
theorem cJ13_314 : Cond.constantLong RJ13 314 (Int64.ofInt (6148914691236517205)) ∈ gdT := tm4_7 (List.mem_of_getElem? (i := 13) rfl) rfl
theorem cJ13_316 : Cond.constantLong RJ13 316 (Int64.ofInt (3689348814741910323)) ∈ gdT := tm4_7 (List.mem_of_getElem? (i := 14) rfl) rfl
theorem cJ13_318 : Cond.constantLong RJ13 318 (Int64.ofInt (1085102592571150095)) ∈ gdT := tm4_7 (List.mem_of_getElem? (i := 15) rfl) rfl
