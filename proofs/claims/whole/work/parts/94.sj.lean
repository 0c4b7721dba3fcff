/-! shelves: alike -/
section SJ
variable {h h' : AH} {sp kp : AV} {Rc : Int → Int → Int} {Zc R Z : Int → Int}
/-- shelves that keep to their bounds, on both sides alike -/
def SW (Rc : Int → Int → Int) (Zc R Z : Int → Int) : Prop := SHR Rc R Zc Z ∧ (∀ j, -1 ≤ Z j ∧ Z j ≤ 40) ∧ (∀ j, -1 ≤ Zc j ∧ Zc j ≤ 40) ∧ (∀ d j, r64 (Rc d j)) ∧ ∀ j, r64 (R j)
theorem SHc.put {d : Int} {r : Int → Int} (hS : SHc h Rc Zc) (hd : 0 ≤ d ∧ d < 4) : SHc (h.set (46 + d.toNat) (oL 40 r)) (udR Rc d r) Zc := by
  obtain ⟨h1, h2, h3⟩ := hS
  refine ⟨gs_ne (by omega) h1, fun j hj => ?_, gs_ne (by omega) h3⟩
  unfold udR
  split
  · rename_i c
    rw [c]
    exact gs_eq (gs_lt (h2 d hd))
  · exact gs_ne (by omega) (h2 j hj)
theorem SHc.size {d n : Int} (hS : SHc h Rc Zc) : SHc (h.set 50 (oI 4 (ud Zc d n))) Rc (ud Zc d n) := by
  obtain ⟨h1, h2, h3⟩ := hS
  exact ⟨gs_ne (by decide) h1, fun j hj => gs_ne (by omega) (h2 j hj), gs_eq (gs_lt h3)⟩
theorem SHc.fr (hS : SHc h Rc Zc) (hF : ∀ i, 45 ≤ i → i < 51 → h'[i]? = h[i]?) : SHc h' Rc Zc := by
  obtain ⟨h1, h2, h3⟩ := hS
  exact ⟨(hF 45 (by decide) (by decide)).trans h1, fun j hj => (hF _ (by omega) (by omega)).trans (h2 j hj), (hF 50 (by decide) (by decide)).trans h3⟩
theorem SW.ref {d i : Int} (h : SW Rc Zc R Z) : pRef Zc d i = rRef Z d i := by
  unfold pRef rRef
  have z := h.2.1 d
  rcases Decidable.em (0 ≤ d ∧ d < 4) with c | c
  · have e := h.1.2 d c
    rw [if_pos c, if_pos (show 0 ≤ d ∧ d ≤ 3 by omega), e]
    (repeat' split) <;> omega
  · rw [if_neg c, if_neg (show ¬ (0 ≤ d ∧ d ≤ 3) by omega)]
theorem SW.put {d i v : Int} (h : SW Rc Zc R Z) (hd : 0 ≤ d ∧ d < 4) (hi : 0 ≤ i ∧ i < Z d) (hv : r64 v) : SW (udR Rc d (ud (Rc d) i v)) Zc (ud R (40 * d + i) v) Z := by
  obtain ⟨⟨h1, h2⟩, h3, h4, h5, h6⟩ := h
  refine ⟨⟨fun d' j hd' hj => ?_, h2⟩, h3, h4, fun d' j => ?_, fun j => ?_⟩
  · have z := h3 d'
    have z2 := h3 d
    unfold udR
    rcases Decidable.em (d' = d) with c | c
    · rw [if_pos c]
      rw [c] at hj ⊢
      rcases Decidable.em (j = i) with e | e
      · rw [e, ud_eq, ud_eq]
      · rw [ud_ne e, ud_ne (by omega)]; exact h1 d j hd hj
    · rw [if_neg c, ud_ne (by omega)]; exact h1 d' j hd' hj
  · unfold udR
    split
    · unfold ud
      split
      · exact hv
      · exact h5 d j
    · exact h5 d' j
  · unfold ud
    split
    · exact hv
    · exact h6 j
theorem SW.el {d i : Int} (h : SW Rc Zc R Z) (hd : 0 ≤ d ∧ d < 4) (hi : 0 ≤ i ∧ i < Z d) : Rc d i = R (40 * d + i) := h.1.1 d i hd hi
theorem SW.row {d n : Int} {R' : Int → Int} (h : SW Rc Zc R Z) (hd : 0 ≤ d ∧ d < 4) (hn : 0 ≤ n ∧ n ≤ 40) (hR : ∀ j, R' j = if 40 * d + 0 ≤ j ∧ j < 40 * d + n then 0 else R j) : SW (udR Rc d (flL (Rc d) 0 ((40 : Nat) : Int))) (ud Zc d n) R' (ud Z d n) := by
  obtain ⟨⟨h1, h2⟩, h3, h4, h5, h6⟩ := h
  have r0 : r64 0 := by unfold r64; omega
  refine ⟨⟨fun d' j hd' hj => ?_, fun d' hd' => ?_⟩, fun j => ?_, fun j => ?_, fun d' j => ?_, fun j => ?_⟩
  · have z := h3 d'
    rw [hR]
    unfold udR
    rcases Decidable.em (d' = d) with c | c
    · rw [if_pos c]
      rw [c, ud_eq] at hj
      rw [c, if_pos (by omega)]
      exact if_pos (by omega)
    · rw [ud_ne c] at hj
      rw [if_neg c, if_neg (by omega)]
      exact h1 d' j hd' hj
  · rcases Decidable.em (d' = d) with c | c
    · rw [c, ud_eq, ud_eq]
    · rw [ud_ne c, ud_ne c]; exact h2 d' hd'
  · rcases Decidable.em (j = d) with c | c
    · rw [c, ud_eq]; omega
    · rw [ud_ne c]; exact h3 j
  · rcases Decidable.em (j = d) with c | c
    · rw [c, ud_eq]; omega
    · rw [ud_ne c]; exact h4 j
  · unfold udR
    split
    · unfold flL
      split
      · exact r0
      · exact h5 d j
    · exact h5 d' j
  · rw [hR]
    split
    · exact r0
    · exact h6 j
end SJ
