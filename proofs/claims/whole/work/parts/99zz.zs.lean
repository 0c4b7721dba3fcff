/-! where the law begins -/
section ZS_
theorem sN_eq (j : Int) : sNew j = if j = 3 then 4 else if j = 4 then 50 else if j = 5 then 5 else if j = 6 then 6 else if j = 7 then 2 else if j = 9 then 1 else if 972 ≤ j ∧ j < 1014 ∧ (j - 972) % 7 = 0 then (j - 972) / 7 else if 972 ≤ j ∧ j < 1014 ∧ (j - 972) % 7 = 1 then -1 else 0 := by
  rcases Decidable.em (972 ≤ j ∧ j < 1014) with c | c
  · obtain ⟨n, rfl⟩ : ∃ n : Fin 42, j = 972 + (n.val : Int) := ⟨⟨(j - 972).toNat, by omega⟩, by show j = 972 + (((j - 972).toNat : Nat) : Int); omega⟩
    revert n
    decide
  · rw [if_neg (show ¬ (972 ≤ j ∧ j < 1014 ∧ (j - 972) % 7 = 0) by omega), if_neg (show ¬ (972 ≤ j ∧ j < 1014 ∧ (j - 972) % 7 = 1) by omega)]
    unfold sNew hA
    rw [ud_ne (by omega), ud_ne (by omega), ud_ne (by omega), ud_ne (by omega), ud_ne (by omega), ud_ne (by omega), ud_ne (by omega), ud_ne (by omega), ud_ne (by omega), ud_ne (by omega), ud_ne (by omega), ud_ne (by omega)]
    unfold ud
    (repeat' split) <;> first | rfl | (exfalso; omega)
theorem wN_eq (j : Int) : wNew j = if j = 3 then 4 else if j = 4 then 50 else if j = 5 then 5 else if j = 6 then 6 else if j = 7 then 2 else if j = 9 then 1 else if 292 ≤ j ∧ j < 340 ∧ (j - 292) % 8 = 0 then (j - 292) / 8 else 0 := by
  rcases Decidable.em (292 ≤ j ∧ j < 340) with c | c
  · obtain ⟨n, rfl⟩ : ∃ n : Fin 48, j = 292 + (n.val : Int) := ⟨⟨(j - 292).toNat, by omega⟩, by show j = 292 + (((j - 292).toNat : Nat) : Int); omega⟩
    revert n
    decide
  · rw [if_neg (show ¬ (292 ≤ j ∧ j < 340 ∧ (j - 292) % 8 = 0) by omega)]
    unfold wNew cA
    rw [ud_ne (by omega), ud_ne (by omega), ud_ne (by omega), ud_ne (by omega), ud_ne (by omega), ud_ne (by omega)]
    unfold cpI
    rcases Decidable.em (3 ≤ j ∧ j < 10) with c2 | c2
    · rcases (by omega : j = 3 ∨ j = 4 ∨ j = 5 ∨ j = 6 ∨ j = 7 ∨ j = 8 ∨ j = 9) with rfl | rfl | rfl | rfl | rfl | rfl | rfl <;> decide
    · rw [if_neg (by omega), if_neg (by omega), if_neg (by omega), if_neg (by omega), if_neg (by omega), if_neg (by omega), if_neg (by omega)]
theorem wN_0 {j : Int} (h : j < 3 ∨ j = 8 ∨ 10 ≤ j ∧ j < 292 ∨ 340 ≤ j ∨ 292 ≤ j ∧ (j - 292) % 8 ≠ 0) : wNew j = 0 := by
  rw [wN_eq, if_neg (by omega), if_neg (by omega), if_neg (by omega), if_neg (by omega), if_neg (by omega), if_neg (by omega), if_neg (by omega)]
theorem sN_0 {j : Int} (h : j < 3 ∨ j = 8 ∨ 10 ≤ j ∧ j < 972 ∨ 1014 ≤ j ∨ 972 ≤ j ∧ (j - 972) % 7 ≠ 0 ∧ (j - 972) % 7 ≠ 1) : sNew j = 0 := by
  rw [sN_eq, if_neg (by omega), if_neg (by omega), if_neg (by omega), if_neg (by omega), if_neg (by omega), if_neg (by omega), if_neg (by omega), if_neg (by omega)]
theorem lastL_z {k : Int} : ∀ m : Nat, lastL sNew k m 0 = 0 := by
  intro m
  cases m with
  | zero => rfl
  | succ m => unfold lastL; exact if_pos (Int.le_refl _)
theorem im_new : IM 1000 sNew := fun j => by
  rw [sN_eq]
  unfold CellM
  (repeat' split) <;> omega
theorem ak_new : AK 1000 wNew sNew := by
  refine ⟨⟨⟨?_, ?_, ?_, ?_, ?_, ?_, ?_, ?_, ?_, ?_, ?_, ?_, ?_, wNew_Z⟩, ?_, ?_⟩, im_new, ?_, ?_⟩
  · exact ⟨by rw [wN_0 (by omega), sN_0 (by omega)], by rw [wN_0 (by omega), sN_0 (by omega)], by rw [wN_0 (by omega), sN_0 (by omega)]⟩
  · intro i hi
    rw [wN_eq, sN_eq]
    (repeat' split) <;> omega
  · intro i hi
    rw [wN_0 (by omega), sN_0 (by omega)]
  · intro k hk
    rw [wN_0 (by omega), sN_0 (by omega)]
  · intro r hr
    rw [wN_0 (by omega), sN_0 (by omega)]
  · intro r hr
    rw [wN_0 (by omega), sN_0 (by omega)]
  · intro a ha
    rw [wN_0 (by omega), sN_0 (by omega)]
  · intro r k hr hk
    rw [wN_0 (by omega), sN_0 (by omega)]
  · intro r k hr hk
    rw [wN_0 (by omega), sN_0 (by omega)]
    exact (lastL_z 60).symm
  · intro k hk
    rw [wN_0 (by omega), sN_0 (by omega)]
    exact (lastL_z 60).symm
  · intro n i hn hi
    unfold jA
    rw [wN_0 (by omega), sN_0 (by omega)]
  · intro c hc
    have h0 : wNew (cA c + 0) = c := by
      unfold cA
      rw [wN_eq]
      (repeat' split) <;> omega
    have g0 : sNew (hA c + 0) = c := by
      unfold hA
      rw [sN_eq]
      (repeat' split) <;> omega
    have g1 : sNew (hA c + 1) = -1 := by
      unfold hA
      rw [sN_eq]
      (repeat' split) <;> omega
    have z : ∀ d, 1 ≤ d ∧ d < 8 → wNew (cA c + d) = 0 := fun d hd => wN_0 (by unfold cA; omega)
    have y : ∀ d, 2 ≤ d ∧ d < 7 → sNew (hA c + d) = 0 := fun d hd => sN_0 (by unfold hA; omega)
    rw [h0, g0, g1, z 1 (by omega), z 2 (by omega), z 3 (by omega), z 4 (by omega), z 5 (by omega), z 6 (by omega), z 7 (by omega), y 2 (by omega), y 4 (by omega), y 5 (by omega), y 6 (by omega)]
    omega
  · intro a k ha hk
    have z : ∀ d, 0 ≤ d ∧ d < 12 → wNew (sA a k + d) = 0 := fun d hd => wN_0 (by unfold sA; omega)
    have e := eA_b ha hk
    have o := oA_b ha hk
    have l := lA_b ha hk
    have d := dA_b ha hk
    have y : ∀ j, 10 ≤ j ∧ j < 972 → sNew j = 0 := fun j hj => sN_0 (by omega)
    rw [z 0 (by omega), z 1 (by omega), z 2 (by omega), z 3 (by omega), z 4 (by omega), z 5 (by omega), z 6 (by omega), z 7 (by omega), z 8 (by omega), z 9 (by omega), z 10 (by omega), z 11 (by omega), y (eA a k) (by omega), y (eA a k + 1) (by omega), y (eA a k + 2) (by omega), y (eA a k + 3) (by omega), y (eA a k + 4) (by omega), y (eA a k + 5) (by omega), y (oA a k) (by omega), y (oA a k + 1) (by omega), y (lA a k) (by omega), y (lA a k + 1) (by omega), y (lA a k + 2) (by omega), y (dA a k) (by omega), sN_0 (j := 0) (by omega)]
    exact ⟨rfl, rfl, rfl, rfl, rfl, Or.inl rfl, rfl, Or.inl rfl, rfl, rfl, Or.inl rfl, Or.inl rfl⟩
  · rw [wN_0 (by omega), sN_0 (by omega)]
  · rw [wN_0 (by omega), sN_0 (by omega)]
  · intro r hr
    rw [sN_0 (by omega), sN_0 (by omega)]
    exact Int.le_refl _
  · intro j hj
    exact sN_0 (by omega)
end ZS_
