/-! where the law begins, whole -/
section ZT_
def hStart : AH := (hNew ++ [oO 7 [vN, vN, vI 0, vI 0, vN, vI 0, vI 0, vI 0, vN, vN, vN, vN, vN, vN, vN, vN, vN, vI 0, vI 0, vI 0, vI 0, vI 0, vI 0, vN, vN, vN, vN, vN, vN, vI 0]]).set 51 (oO 7 (mF 0 0 0 0 0 0 0 0 0 0 0 0)) ++ mNew
def slN : Int → Option Nat := udO (fun _ => none) 0 (some 7)
def plN (i : Int) : Nat := (17 + 4 * i).toNat
theorem slN_i {i : Int} {s : Nat} (h : slN i = some s) : i = 0 ∧ s = 7 := by
  unfold slN udO at h
  split at h
  · rename_i c; cases h; exact ⟨c, rfl⟩
  · cases h
theorem plN_eq : (udO (udO (udO (udO (udO (udO (fun _ => none) 0 (some 17)) 1 (some 21)) 2 (some 25)) 3 (some 29)) 4 (some 33)) 5 (some 37) : Int → Option Nat) = plF plN := by
  funext i
  unfold plF
  split
  · rename_i c
    rcases (by omega : i = 0 ∨ i = 1 ∨ i = 2 ∨ i = 3 ∨ i = 4 ∨ i = 5) with rfl | rfl | rfl | rfl | rfl | rfl <;> rfl
  · unfold udO
    (repeat' split) <;> first | rfl | (exfalso; omega)
theorem mnF_eq : mnF 45 = shF := by
  funext i
  unfold mnF shF
  rfl
theorem sN_Z : ZM sNew := fun j hj => sN_0 (by omega)
theorem rK_new : rK (cpI sNew (fun _ => 0) 0 0 1014) 0 = sNew := by
  funext i
  unfold rK cpI
  split
  · rw [if_pos (by omega)]
    congr 1
    omega
  · exact (sN_Z i (by omega)).symm
theorem z_new (j : Int) : -1 ≤ zNew j ∧ zNew j ≤ 40 := by
  unfold zNew ud
  (repeat' split) <;> first | omega | (dsimp only; omega)
theorem z_neg {j : Int} (h : 0 ≤ j ∧ j < 4) : zNew j = -1 := by
  unfold zNew ud
  (repeat' split) <;> omega
theorem zc_new (j : Int) : -1 ≤ flI (fun _ => 0) (-1) 4 j ∧ flI (fun _ => 0) (-1) 4 j ≤ 40 := by
  unfold flI
  split <;> first | omega | (dsimp only; omega)
theorem zc_neg {j : Int} (h : 0 ≤ j ∧ j < 4) : flI (fun _ => 0) (-1) 4 j = -1 := by
  unfold flI
  rw [if_pos h]
theorem ca_new : CA hStart wNew 0 0 0 slN (fun _ => wNew) vN (vR (plN 6)) wNew := by
  refine ⟨rfl, ⟨by decide, by decide, _, rfl, rfl⟩, rfl, wNew_Z, ⟨rfl, rfl, by omega, fun i hi s hs => ?_, fun i j hi hj s h1 h2 => ?_, fun d hd => ?_⟩, Or.inl rfl, by decide⟩
  · obtain ⟨rfl, rfl⟩ := slN_i hs
    exact ⟨Or.inl rfl, rfl, wNew_Z⟩
  · exact (slN_i h1).1.trans (slN_i h2).1.symm
  · have e : d = 0 := by omega
    rw [e]
    exact ⟨7, rfl⟩
theorem sd_new : SIDE hStart := ⟨rfl, ⟨wNew, wNew_Z, rfl⟩, ⟨0, 0, 0, 0, rfl⟩, ⟨0, 0, 0, 0, 0, rfl⟩, ⟨_, rfl⟩, ⟨_, rfl⟩, ⟨_, rfl⟩, ⟨_, rfl⟩⟩
theorem sh_new : SHc hStart (fun _ _ => 0) (flI (fun _ => 0) (-1) 4) := by
  refine ⟨?_, fun d hd => ?_, rfl⟩
  · rw [← mnF_eq]; rfl
  · rcases (by omega : d = 0 ∨ d = 1 ∨ d = 2 ∨ d = 3) with rfl | rfl | rfl | rfl <;> rfl
theorem pl_new : PL hStart plN (fun _ _ => 0) (fun _ _ => 0) (fun _ _ => 0) (fun _ => 0) := by
  refine ⟨?_, fun i hi => ?_, fun i j hi hj hij => ?_⟩
  · rw [← plN_eq]; rfl
  · rcases (by omega : i = 0 ∨ i = 1 ∨ i = 2 ∨ i = 3 ∨ i = 4 ∨ i = 5 ∨ i = 6) with rfl | rfl | rfl | rfl | rfl | rfl | rfl <;> exact ⟨by decide, rfl, rfl, rfl, rfl⟩
  · unfold plN; omega
theorem mv_new : MV hStart sNew (cpI sNew (fun _ => 0) 0 0 1014) 0 0 (fun _ => 0) 0 (fun _ => 0) (fun _ => 0) (fun _ => 0) zNew (fun _ => 0) 0 :=
  ⟨⟨0, 0, 0, 0, 0, 0, 0, 0, rfl⟩, rfl, rfl, rfl, ⟨_, rfl⟩, rfl, rfl, ⟨_, rfl⟩, ⟨_, rfl⟩, ⟨_, rfl⟩, ⟨_, rfl⟩, ⟨_, rfl⟩, ⟨_, rfl⟩, ⟨_, rfl⟩, ⟨_, rfl⟩, rfl, rfl, rfl, ⟨vbNew, rfl, by decide, by decide, by decide, by decide, by decide, by decide, by decide, by decide⟩⟩
theorem r6_0 : r64 0 := by unfold r64; omega
theorem r3_0 : r32 0 := by unfold r32; omega
theorem t_0 : (0 : Int) ≤ 0 ∧ (0 : Int) < 256 := by omega
theorem t_5 : (0 : Int) ≤ 0 ∧ (0 : Int) ≤ 5 := by omega
theorem inv_new : INV 1000 hStart := by
  refine INV.mk (hr := 0) (bh := 0) (ah := 0) ⟨ca_new, sd_new, sh_new, ⟨0, rfl⟩, (rfl : hStart[15]? = some (oI 160 fun _ => 0)), pl_new⟩ mv_new ⟨⟨ak_new, rfl, rfl, by omega, by omega, fun d hd => ?_⟩, Or.inl ⟨rfl, rfl⟩, fun _ _ => rfl, ⟨⟨fun d j hd hj => rfl, fun d hd => ?_⟩, z_new, zc_new, fun d j => r6_0, fun j => r6_0⟩, fun j => t_0, by omega, fun c hc => ⟨rfl, t_5, fun j hj => by dsimp only at hj; omega⟩, fun j => r3_0⟩
  · have e : d = 0 := by omega
    rw [e]
    show AK 1000 wNew (rK _ (0 + 0))
    rw [show (0 : Int) + 0 = 0 from rfl, rK_new]
    exact ak_new
  · rw [z_neg hd, zc_neg hd]
end ZT_
