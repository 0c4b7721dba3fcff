/-! a row of rows of longs, made at once -/
section MN_
variable {X : XS} {K : Kd} {pc : Nat} {L : List (Option AV)} {S : List AV} {h : AH} {b b0 : Nat × Nat} {Q : Option AV → AH → Prop}
def mnF (n : Nat) : Int → Option Nat := fun i => if 0 ≤ i ∧ i < 4 then some (n + 1 + i.toNat) else none
def mnC (n : Nat) : AH := [oR 2 4 (mnF n), oL 40 (fun _ => 0), oL 40 (fun _ => 0), oL 40 (fun _ => 0), oL 40 (fun _ => 0)]
theorem wsO_mn {E ad : Nat → Nat} {ca : Nat → ClassId} {q : Nat} {r : Nat → Nat} {cA cy : ClassId} (hok : ∀ c ∈ h, okC h.length c) :
    wsO E (fun i => if i < h.length then ad i else if i = h.length then q else r (i - h.length - 1)) (fun i => if i < h.length then ca i else if i = h.length then cA else cy) (h ++ mnC h.length) =
      (wsO E ad ca h ++ [(q, .inl (cA, 4, .inr (.inr (.inr (.inr (fun i => if i < 4 then some (r i) else none))))))]) ++ [(r 0, .inl (cy, 40, .inr (.inl (fun _ => Int64.ofInt 0)))), (r 1, .inl (cy, 40, .inr (.inl (fun _ => Int64.ofInt 0)))), (r 2, .inl (cy, 40, .inr (.inl (fun _ => Int64.ofInt 0)))), (r 3, .inl (cy, 40, .inr (.inl (fun _ => Int64.ofInt 0))))] := by
  have ha : ∀ i, i < h.length → (fun i => if i < h.length then ad i else if i = h.length then q else r (i - h.length - 1)) i = ad i := fun i hi => if_pos hi
  have hb : ∀ i, i < h.length → (fun i => if i < h.length then ca i else if i = h.length then cA else cy) i = ca i := fun i hi => if_pos hi
  have hq : (fun i => if i < h.length then ad i else if i = h.length then q else r (i - h.length - 1)) h.length = q := by simp
  have hr : ∀ j, (fun i => if i < h.length then ad i else if i = h.length then q else r (i - h.length - 1)) (h.length + 1 + j) = r j := fun j => by
    show (if h.length + 1 + j < h.length then ad (h.length + 1 + j) else if h.length + 1 + j = h.length then q else r (h.length + 1 + j - h.length - 1)) = r j
    rw [if_neg (by omega), if_neg (by omega), show h.length + 1 + j - h.length - 1 = j by omega]
  have hcq : (fun i => if i < h.length then ca i else if i = h.length then cA else cy) h.length = cA := by simp
  have hcr : ∀ j, (fun i => if i < h.length then ca i else if i = h.length then cA else cy) (h.length + 1 + j) = cy := fun j => by
    show (if h.length + 1 + j < h.length then ca (h.length + 1 + j) else if h.length + 1 + j = h.length then cA else cy) = cy
    rw [if_neg (by omega), if_neg (by omega)]
  generalize (fun i => if i < h.length then ad i else if i = h.length then q else r (i - h.length - 1)) = ad' at *
  generalize (fun i => if i < h.length then ca i else if i = h.length then cA else cy) = ca' at *
  have e1 : wsO E ad' ca' (h ++ mnC h.length) = wsO E ad' ca' h ++ (mnC h.length).mapIdx (fun i c => (ad' (i + h.length), cvC E ad' (ca' (i + h.length)) c)) := by
    unfold wsO
    rw [List.mapIdx_append]
  have e2 : wsO E ad' ca' h = wsO E ad ca h := by
    apply List.ext_getElem?
    intro j
    rcases Nat.lt_or_ge j h.length with e | e
    · obtain ⟨x, hx⟩ : ∃ x, h[j]? = some x := ⟨h[j], by simp [e]⟩
      rw [wsO_get hx, wsO_get hx, ha j e, hb j e, cvC_agree ha (hok x (List.mem_of_getElem? hx))]
    · rw [List.getElem?_eq_none (by simpa [wsO] using e), List.getElem?_eq_none (by simpa [wsO] using e)]
  have ef : (fun i : Nat => (mnF h.length i).map ad') = fun i : Nat => if i < 4 then some (r i) else none := by
    funext i
    unfold mnF
    rcases Nat.lt_or_ge i 4 with e | e
    · rw [if_pos (show 0 ≤ (i : Int) ∧ (i : Int) < 4 by omega), if_pos e]
      show some (ad' (h.length + 1 + (i : Int).toNat)) = some (r i)
      rw [show (i : Int).toNat = i by omega, hr i]
    · rw [if_neg (show ¬ (0 ≤ (i : Int) ∧ (i : Int) < 4) by omega), if_neg (by omega)]
      rfl
  have i0 : 0 + h.length = h.length := Nat.zero_add _
  have i1 : 0 + 1 + h.length = h.length + 1 + 0 := by omega
  have i2 : 0 + 1 + 1 + h.length = h.length + 1 + 1 := by omega
  have i3 : 0 + 1 + 1 + 1 + h.length = h.length + 1 + 2 := by omega
  have i4 : 0 + 1 + 1 + 1 + 1 + h.length = h.length + 1 + 3 := by omega
  rw [e1, e2, List.append_assoc]
  congr 1
  show [(ad' (0 + h.length), cvC E ad' (ca' (0 + h.length)) (oR 2 4 (mnF h.length))), (ad' (0 + 1 + h.length), cvC E ad' (ca' (0 + 1 + h.length)) (oL 40 (fun _ => 0))), (ad' (0 + 1 + 1 + h.length), cvC E ad' (ca' (0 + 1 + 1 + h.length)) (oL 40 (fun _ => 0))), (ad' (0 + 1 + 1 + 1 + h.length), cvC E ad' (ca' (0 + 1 + 1 + 1 + h.length)) (oL 40 (fun _ => 0))), (ad' (0 + 1 + 1 + 1 + 1 + h.length), cvC E ad' (ca' (0 + 1 + 1 + 1 + 1 + h.length)) (oL 40 (fun _ => 0)))] = _
  rw [i0, i1, i2, i3, i4, hq, hr 0, hr 1, hr 2, hr 3, hcq, hcr 0, hcr 1, hcr 2, hcr 3]
  show (q, (.inl (cA, 4, .inr (.inr (.inr (.inr (fun i : Nat => (mnF h.length i).map ad'))))) : va_E)) :: _ = _
  rw [ef]
  rfl
theorem wp_mna {idx : Nat} (hd : decode K.2.1 pc = .ok (.multianewarray idx 2, 4)) (hcl : Cond.classLink K.1.cls idx "[[J" ∈ gdT) (hb1 : 5 + b0.1 ≤ b.1) (hb2 : 164 + b0.2 ≤ b.2) (k : Wp X K (pc + 4) L (vR h.length :: S) (h ++ mnC h.length) b0 Q) : Wp X K pc L (vI 40 :: vI 4 :: S) h b Q :=
  fun p l e R s m args below meth c D E A ad0 n0 Z C hz ad ca H locs cells slots ls hH hS hE hL hO hls hc hs => by
    have hNW := C.2.2.2.2.2.2.2.1.2.2.2.2.2.2
    have harr : (Cond.arrayClass .long).before args s = true := C.2.2.2.2.1 _ wA_long
    obtain ⟨cy, ky, comp, y1, y2, y3⟩ := Cond.arrayClass_spec harr
    refine va_mna (X := wsO E ad ca h) (L := []) (f := fun _ => .inl (cy, 40, .inr (.inl (fun _ => Int64.ofInt 0)))) (tys := []) (N' := 4) (K' := 40) (z := (40, .inr (.inl (fun _ => Int64.ofInt 0)))) C.1 C.2.1 (ty := .long) (cy := cy) C.2.2.2.1 (C.2.2.2.2.1 _ hcl) hNW.2.2.2 harr y1 C.2.2.2.2.2.2.1 (by show va_P D vwCl (wsO E ad ca h ++ []) H; rw [List.append_nil]; exact hH.1) (by show va_D A (wsO E ad ca h ++ []); rw [List.append_nil]; exact hH.2.1) hS C.2.2.2.2.2.2.2.2.1 (by decide) (by decide) (by decide) (by decide) (by decide) (by decide) (by decide) rfl rfl (by omega) (by omega) (fun c => rfl) hd (fun q r cA H1 hin hnl hK1 hP1 hD1 hS1 => ?_)
    have er : va_pl ([] ++ (List.range 4).map r) (vr_up (fun _ => (.inl (cy, 40, .inr (.inl (fun _ => Int64.ofInt 0))) : va_E)) ((List.range 4).map r) (.inl (cy, 40, .inr (.inl (fun _ => Int64.ofInt 0))))) = [(r 0, .inl (cy, 40, .inr (.inl (fun _ => Int64.ofInt 0)))), (r 1, .inl (cy, 40, .inr (.inl (fun _ => Int64.ofInt 0)))), (r 2, .inl (cy, 40, .inr (.inl (fun _ => Int64.ofInt 0)))), (r 3, .inl (cy, 40, .inr (.inl (fun _ => Int64.ofInt 0))))] := by
      have e0 : ∀ a, vr_up (fun _ => (.inl (cy, 40, .inr (.inl (fun _ => Int64.ofInt 0))) : va_E)) ((List.range 4).map r) (.inl (cy, 40, .inr (.inl (fun _ => Int64.ofInt 0)))) a = .inl (cy, 40, .inr (.inl (fun _ => Int64.ofInt 0))) := fun a => by unfold vr_up; split <;> rfl
      unfold va_pl
      rw [show ((List.range 4).map r) = [r 0, r 1, r 2, r 3] from rfl] at *
      simp only [List.nil_append, List.map_cons, List.map_nil, e0]
    rw [er, ← wsO_mn hH.2.2.2] at hP1 hD1
    have hTa : ArrOfT s cA (.array .long) ∧ va_RA s cA (.array .long) := hK1.2 0 _ rfl
    have hTy : ArrOfT s cy .long ∧ va_RA s cy .long := ⟨fun n z => ⟨(fun k h => (by cases h)), ky, y2, comp, y3⟩, y1⟩
    have hlen : (h ++ mnC h.length).length = h.length + 5 := by simp [mnC]
    have hH1 : Hl D E A s (fun i => if i < h.length then ad i else if i = h.length then q else r (i - h.length - 1)) (fun i => if i < h.length then ca i else if i = h.length then cA else cy) (h ++ mnC h.length) H1 := by
      refine ⟨hP1, hD1, fun i x ty hi hx => ?_, fun x hx => ?_⟩
      · dsimp only
        rcases Nat.lt_or_ge i h.length with e | e
        · rw [List.getElem?_append_left e] at hi
          rw [if_pos e]
          exact hH.2.2.1 i x ty hi hx
        · rw [List.getElem?_append_right e] at hi
          rw [if_neg (by omega)]
          have z : i - h.length < 5 := (List.getElem?_eq_some_iff.mp hi).1
          rcases (by omega : i - h.length = 0 ∨ i - h.length = 1 ∨ i - h.length = 2 ∨ i - h.length = 3 ∨ i - h.length = 4) with e2 | e2 | e2 | e2 | e2
          · rw [e2] at hi; cases hi; cases hx; rw [if_pos (by omega)]; exact hTa
          · rw [e2] at hi; cases hi; cases hx; rw [if_neg (by omega)]; exact hTy
          · rw [e2] at hi; cases hi; cases hx; rw [if_neg (by omega)]; exact hTy
          · rw [e2] at hi; cases hi; cases hx; rw [if_neg (by omega)]; exact hTy
          · rw [e2] at hi; cases hi; cases hx; rw [if_neg (by omega)]; exact hTy
      · rw [hlen]
        rcases List.mem_append.mp hx with q | q
        · exact (hH.2.2.2 x q).mono (by omega)
        · have tr : ∀ c ∈ mnC h.length, okC (h.length + 5) c := fun c hc => by
            unfold mnC at hc
            rcases List.mem_cons.mp hc with e | hc
            · rw [e]; intro z j hj; unfold mnF at hj; split at hj
              · cases hj; omega
              · cases hj
            · rcases List.mem_cons.mp hc with e | hc
              · rw [e]; trivial
              · rcases List.mem_cons.mp hc with e | hc
                · rw [e]; trivial
                · rcases List.mem_cons.mp hc with e | hc
                  · rw [e]; trivial
                  · rw [List.mem_singleton.mp hc]; trivial
          exact tr x q
    have hag : ∀ v : AV, okV h.length v → cvV E (fun i => if i < h.length then ad i else if i = h.length then q else r (i - h.length - 1)) v = cvV E ad v := fun v hv => cvV_agree (fun i hi => if_pos hi) hv
    have kw := k p l e R s m args below meth c D E A ad0 n0 Z C hz _ _ H1 locs (cells + 1 + 4) (slots + 4 + 4 * 40) ls hH1 hS1
      ⟨by rw [hlen]; exact Nat.le_trans hE.1 (by omega), fun i hi => by dsimp only; rw [if_pos (Nat.lt_of_lt_of_le hi hE.1)]; exact hE.2 i hi⟩ (fun i v hi => (hL i v hi).mono (by omega)) (okS_c (by show h.length < (h ++ mnC h.length).length; omega) (fun v hv => (okS_t (okS_t hO) v hv).mono (by omega)))
      ⟨hls.1, fun i v hi => by rw [hag v (hL i v hi)]; exact hls.2 i v hi⟩ (by omega) (by omega)
    have ek : (vR h.length :: S).map (cvV E (fun i => if i < h.length then ad i else if i = h.length then q else r (i - h.length - 1))) = .ref q :: S.map (cvV E ad) := by
      rw [List.map_cons]
      congr 1
      · show va_rf (some (if h.length < h.length then ad h.length else if h.length = h.length then q else r (h.length - h.length - 1))) = _
        rw [if_neg (by omega), if_pos rfl]; rfl
      · exact List.map_congr_left fun v hv => hag v (okS_t (okS_t hO) v hv)
    rw [ek] at kw
    exact kw
end MN_
