/-! saving keeps the shelves alike -/
section SK2
variable {Rc : Int → Int → Int} {Zc R Z f g : Int → Int} {B : Int}
theorem svL_r {x : Int} {y v : Int → Int} (hv : ∀ j, 0 ≤ j → j < 10 → r64 (v j)) : ∀ (m : Nat) (k z : Int) (r : Int → Int), k + m = 10 → 0 ≤ k → (∀ j, r64 (r j)) → ∀ j, r64 (svL x y v m k z r j) := by
  intro m
  induction m with
  | zero => intro k z r _ _ h j; exact h j
  | succ m ih =>
    intro k z r h1 h2 h j
    unfold svL
    split
    · refine ih (k + 1) (z + 1) _ (by omega) (by omega) (fun i => ?_) j
      unfold ud
      split
      · exact hv k h2 (by omega)
      · exact h i
    · exact ih (k + 1) z r (by omega) (by omega) h j
theorem SW.save {d i a : Int} (h : SW Rc Zc R Z) (hS : Sm0 f g) (hI : IM B g) (hW : IW B f) (hBB : B ≤ 8000000) (ha : 0 ≤ a ∧ a < 6) (hd : 0 ≤ d ∧ d < 4) (hi : 0 ≤ i) (hz : i + entN g a ≤ Z d) :
    bc10 (wEk f a) = entN g a ∧ SW (udR Rc d (svL (f 0) (fun j => f (sA a j + 5)) (fun j => f (sA a j + 1) * 1000000 + j * 1000 + f (sA a j + 0)) 10 0 i (Rc d))) Zc (svL (g 0) (fun j => g (eA a j)) (fun j => 1000000 * g (eA a j + 2) + 1000 * j + g (eA a j + 1)) 10 0 (40 * d + i) R) Z := by
  have q := A_save hS ha hd h.1 (fun j => (h.2.1 j).2) hi hz
  refine ⟨q.1, q.2, h.2.1, h.2.2.1, fun d' j => ?_, ?_⟩
  · unfold udR
    split
    · refine svL_r (fun j q1 q2 => ?_) 10 0 i (Rc d) (by omega) (by omega) (h.2.2.2.1 d) j
      have b1 := hW.b (sA a j + 1)
      have b2 := hW.b (sA a j + 0)
      unfold r64
      omega
    · exact h.2.2.2.1 d' j
  · refine svL_r (fun j q1 q2 => ?_) 10 0 (40 * d + i) R (by omega) (by omega) h.2.2.2.2
    have b1 := hI.b (eA a j + 1)
    have b2 := hI.b (eA a j + 2)
    unfold r64
    omega
end SK2
