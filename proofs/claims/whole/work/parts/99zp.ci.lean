/-! constructors: new objects, and what the small ones make -/
section CI_
variable {X : XS} {K : Kd} {pc : Nat} {L : List (Option AV)} {S : List AV} {h A B : AH} {b b0 : Nat × Nat} {Q : Option AV → AH → Prop} {p n i : Nat} {o o' c : AC}
theorem wp_re {h' : AH} (e : h = h') (k : Wp X K pc L S h' b Q) : Wp X K pc L S h b Q := e ▸ k
theorem wp_at {n : Nat} {H : AH} (e : h.length = n) (k : Wp X K pc L (vR n :: S) H b Q) : Wp X K pc L (vR h.length :: S) H b Q := e ▸ k
theorem ci_p (hp : p < h.length) : (h.set p o ++ B)[p]? = some o := by rw [List.getElem?_append_left (by rw [List.length_set]; exact hp)]; exact gs_eq hp
theorem ci_k (hn : h.length = n) (hB : B[i]? = some c) : (h.set p o ++ B)[n + i]? = some c := by
  rw [List.getElem?_append_right (by rw [List.length_set]; omega), List.length_set, hn, Nat.add_sub_cancel_left]; exact hB
theorem ci_sp (hp : p < h.length) : (h.set p o ++ B).set p o' = h.set p o' ++ B := by rw [List.set_append_left _ _ (by rw [List.length_set]; exact hp), List.set_set]
theorem ci_sk (hn : h.length = n) : (h.set p o ++ B).set (n + i) c = h.set p o ++ B.set i c := by
  rw [List.set_append_right _ _ (by rw [List.length_set]; omega), List.length_set, hn, Nat.add_sub_cancel_left]
theorem ci_ps : (h.set p o ++ B) ++ [c] = h.set p o ++ (B ++ [c]) := List.append_assoc _ _ _
theorem ci_l (hn : h.length = n) : (h.set p o ++ B).length = n + B.length := by rw [List.length_append, List.length_set, hn]
theorem ci_0 (hp : h[p]? = some o) : h = h.set p o ++ [] := by rw [List.append_nil, set_same hp]

theorem new0 {idx : Nat} (hd : decode K.2.1 pc = .ok (.new idx, 3)) (hown : K.1.cls = K.1.cls) (hcl : Cond.classLink K.1.cls idx RX0 ∈ gdT) (hb1 : 1 + b0.1 ≤ b.1) (hb2 : 4 + b0.2 ≤ b.2) (k : Wp X K (pc + 3) L (vR h.length :: S) (h ++ [oO 0 [vN, vI 0, vI 0, vI 0]]) b0 Q) : Wp X K pc L S h b Q :=
  wp_new (T := TX0) tyX0 hd rfl hcl (tm1_3 (List.mem_of_getElem? (i := 0) rfl) rfl) (tm1_0 (List.mem_of_getElem? (i := 4) rfl) rfl) gnX0 tyX0_ok rfl (fun E ad j hj => match j, hj with
    | 0, _ => rfl
    | 1, _ => rfl
    | 2, _ => rfl
    | 3, _ => rfl
    ) (fun _ v hv => by
      rcases List.mem_cons.mp hv with q | hv
      · rw [q]; trivial
      rcases List.mem_cons.mp hv with q | hv
      · rw [q]; trivial
      rcases List.mem_cons.mp hv with q | hv
      · rw [q]; trivial
      rcases List.mem_cons.mp hv with q | hv
      · rw [q]; trivial
      cases hv) hb1 hb2 k
theorem new1 {idx : Nat} (hd : decode K.2.1 pc = .ok (.new idx, 3)) (hown : K.1.cls = K.1.cls) (hcl : Cond.classLink K.1.cls idx RX1 ∈ gdT) (hb1 : 1 + b0.1 ≤ b.1) (hb2 : 10 + b0.2 ≤ b.2) (k : Wp X K (pc + 3) L (vR h.length :: S) (h ++ [oO 1 [vN, vN, vN, vN, vN, vI 0, vI 0, vI 0, vI 0, vI 0]]) b0 Q) : Wp X K pc L S h b Q :=
  wp_new (T := TX1) tyX1 hd rfl hcl (tm1_6 (List.mem_of_getElem? (i := 9) rfl) rfl) (tm1_0 (List.mem_of_getElem? (i := 6) rfl) rfl) gnX1 tyX1_ok rfl (fun E ad j hj => match j, hj with
    | 0, _ => rfl
    | 1, _ => rfl
    | 2, _ => rfl
    | 3, _ => rfl
    | 4, _ => rfl
    | 5, _ => rfl
    | 6, _ => rfl
    | 7, _ => rfl
    | 8, _ => rfl
    | 9, _ => rfl
    ) (fun _ v hv => by
      rcases List.mem_cons.mp hv with q | hv
      · rw [q]; trivial
      rcases List.mem_cons.mp hv with q | hv
      · rw [q]; trivial
      rcases List.mem_cons.mp hv with q | hv
      · rw [q]; trivial
      rcases List.mem_cons.mp hv with q | hv
      · rw [q]; trivial
      rcases List.mem_cons.mp hv with q | hv
      · rw [q]; trivial
      rcases List.mem_cons.mp hv with q | hv
      · rw [q]; trivial
      rcases List.mem_cons.mp hv with q | hv
      · rw [q]; trivial
      rcases List.mem_cons.mp hv with q | hv
      · rw [q]; trivial
      rcases List.mem_cons.mp hv with q | hv
      · rw [q]; trivial
      rcases List.mem_cons.mp hv with q | hv
      · rw [q]; trivial
      cases hv) hb1 hb2 k
theorem new2 {idx : Nat} (hd : decode K.2.1 pc = .ok (.new idx, 3)) (hown : K.1.cls = K.1.cls) (hcl : Cond.classLink K.1.cls idx RX2 ∈ gdT) (hb1 : 1 + b0.1 ≤ b.1) (hb2 : 4 + b0.2 ≤ b.2) (k : Wp X K (pc + 3) L (vR h.length :: S) (h ++ [oO 2 [vN, vN, vN, vI 0]]) b0 Q) : Wp X K pc L S h b Q :=
  wp_new (T := TX2) tyX2 hd rfl hcl (tm1_10 (List.mem_of_getElem? (i := 1) rfl) rfl) (tm1_0 (List.mem_of_getElem? (i := 8) rfl) rfl) gnX2 tyX2_ok rfl (fun E ad j hj => match j, hj with
    | 0, _ => rfl
    | 1, _ => rfl
    | 2, _ => rfl
    | 3, _ => rfl
    ) (fun _ v hv => by
      rcases List.mem_cons.mp hv with q | hv
      · rw [q]; trivial
      rcases List.mem_cons.mp hv with q | hv
      · rw [q]; trivial
      rcases List.mem_cons.mp hv with q | hv
      · rw [q]; trivial
      rcases List.mem_cons.mp hv with q | hv
      · rw [q]; trivial
      cases hv) hb1 hb2 k
theorem new3 {idx : Nat} (hd : decode K.2.1 pc = .ok (.new idx, 3)) (hown : K.1.cls = K.1.cls) (hcl : Cond.classLink K.1.cls idx RX3 ∈ gdT) (hb1 : 1 + b0.1 ≤ b.1) (hb2 : 5 + b0.2 ≤ b.2) (k : Wp X K (pc + 3) L (vR h.length :: S) (h ++ [oO 3 [vN, vI 0, vI 0, vI 0, vI 0]]) b0 Q) : Wp X K pc L S h b Q :=
  wp_new (T := TX3) tyX3 hd rfl hcl (tm1_5 (List.mem_of_getElem? (i := 3) rfl) rfl) (tm1_0 (List.mem_of_getElem? (i := 5) rfl) rfl) gnX3 tyX3_ok rfl (fun E ad j hj => match j, hj with
    | 0, _ => rfl
    | 1, _ => rfl
    | 2, _ => rfl
    | 3, _ => rfl
    | 4, _ => rfl
    ) (fun _ v hv => by
      rcases List.mem_cons.mp hv with q | hv
      · rw [q]; trivial
      rcases List.mem_cons.mp hv with q | hv
      · rw [q]; trivial
      rcases List.mem_cons.mp hv with q | hv
      · rw [q]; trivial
      rcases List.mem_cons.mp hv with q | hv
      · rw [q]; trivial
      rcases List.mem_cons.mp hv with q | hv
      · rw [q]; trivial
      cases hv) hb1 hb2 k
theorem new4 {idx : Nat} (hd : decode K.2.1 pc = .ok (.new idx, 3)) (hown : K.1.cls = K.1.cls) (hcl : Cond.classLink K.1.cls idx RX4 ∈ gdT) (hb1 : 1 + b0.1 ≤ b.1) (hb2 : 3 + b0.2 ≤ b.2) (k : Wp X K (pc + 3) L (vR h.length :: S) (h ++ [oO 4 [vN, vI 0, vI 0]]) b0 Q) : Wp X K pc L S h b Q :=
  wp_new (T := TX4) tyX4 hd rfl hcl (tm1_8 (List.mem_of_getElem? (i := 15) rfl) rfl) (tm1_0 (List.mem_of_getElem? (i := 7) rfl) rfl) gnX4 tyX4_ok rfl (fun E ad j hj => match j, hj with
    | 0, _ => rfl
    | 1, _ => rfl
    | 2, _ => rfl
    ) (fun _ v hv => by
      rcases List.mem_cons.mp hv with q | hv
      · rw [q]; trivial
      rcases List.mem_cons.mp hv with q | hv
      · rw [q]; trivial
      rcases List.mem_cons.mp hv with q | hv
      · rw [q]; trivial
      cases hv) hb1 hb2 k
theorem new5 {idx : Nat} (hd : decode K.2.1 pc = .ok (.new idx, 3)) (hown : K.1.cls = K.1.cls) (hcl : Cond.classLink K.1.cls idx RX5 ∈ gdT) (hb1 : 1 + b0.1 ≤ b.1) (hb2 : 1 + b0.2 ≤ b.2) (k : Wp X K (pc + 3) L (vR h.length :: S) (h ++ [oO 5 [vN]]) b0 Q) : Wp X K pc L S h b Q :=
  wp_new (T := TX5) tyX5 hd rfl hcl (tm1_1 (List.mem_of_getElem? (i := 11) rfl) rfl) (tm1_0 (List.mem_of_getElem? (i := 2) rfl) rfl) gnX5 tyX5_ok rfl (fun E ad j hj => match j, hj with
    | 0, _ => rfl
    ) (fun _ v hv => by
      rcases List.mem_cons.mp hv with q | hv
      · rw [q]; trivial
      cases hv) hb1 hb2 k
theorem new6 {idx : Nat} (hd : decode K.2.1 pc = .ok (.new idx, 3)) (hown : K.1.cls = K.1.cls) (hcl : Cond.classLink K.1.cls idx RX6 ∈ gdT) (hb1 : 1 + b0.1 ≤ b.1) (hb2 : 11 + b0.2 ≤ b.2) (k : Wp X K (pc + 3) L (vR h.length :: S) (h ++ [oO 6 [vN, vN, vN, vN, vN, vN, vN, vN, vN, vN, vN]]) b0 Q) : Wp X K pc L S h b Q :=
  wp_new (T := TX6) tyX6 hd rfl hcl (tm1_1 (List.mem_of_getElem? (i := 3) rfl) rfl) (tm1_0 (List.mem_of_getElem? (i := 1) rfl) rfl) gnX6 tyX6_ok rfl (fun E ad j hj => match j, hj with
    | 0, _ => rfl
    | 1, _ => rfl
    | 2, _ => rfl
    | 3, _ => rfl
    | 4, _ => rfl
    | 5, _ => rfl
    | 6, _ => rfl
    | 7, _ => rfl
    | 8, _ => rfl
    | 9, _ => rfl
    | 10, _ => rfl
    ) (fun _ v hv => by
      rcases List.mem_cons.mp hv with q | hv
      · rw [q]; trivial
      rcases List.mem_cons.mp hv with q | hv
      · rw [q]; trivial
      rcases List.mem_cons.mp hv with q | hv
      · rw [q]; trivial
      rcases List.mem_cons.mp hv with q | hv
      · rw [q]; trivial
      rcases List.mem_cons.mp hv with q | hv
      · rw [q]; trivial
      rcases List.mem_cons.mp hv with q | hv
      · rw [q]; trivial
      rcases List.mem_cons.mp hv with q | hv
      · rw [q]; trivial
      rcases List.mem_cons.mp hv with q | hv
      · rw [q]; trivial
      rcases List.mem_cons.mp hv with q | hv
      · rw [q]; trivial
      rcases List.mem_cons.mp hv with q | hv
      · rw [q]; trivial
      rcases List.mem_cons.mp hv with q | hv
      · rw [q]; trivial
      cases hv) hb1 hb2 k
theorem new7 {idx : Nat} (hd : decode K.2.1 pc = .ok (.new idx, 3)) (hown : K.1.cls = K.1.cls) (hcl : Cond.classLink K.1.cls idx RX7 ∈ gdT) (hb1 : 1 + b0.1 ≤ b.1) (hb2 : 30 + b0.2 ≤ b.2) (k : Wp X K (pc + 3) L (vR h.length :: S) (h ++ [oO 7 [vN, vN, vI 0, vI 0, vN, vI 0, vI 0, vI 0, vN, vN, vN, vN, vN, vN, vN, vN, vN, vI 0, vI 0, vI 0, vI 0, vI 0, vI 0, vN, vN, vN, vN, vN, vN, vI 0]]) b0 Q) : Wp X K pc L S h b Q :=
  wp_new (T := TX7) tyX7 hd rfl hcl (tm4_12 (List.mem_of_getElem? (i := 12) rfl) rfl) (tm1_0 (List.mem_of_getElem? (i := 10) rfl) rfl) gnX7 tyX7_ok rfl (fun E ad j hj => match j, hj with
    | 0, _ => rfl
    | 1, _ => rfl
    | 2, _ => rfl
    | 3, _ => rfl
    | 4, _ => rfl
    | 5, _ => rfl
    | 6, _ => rfl
    | 7, _ => rfl
    | 8, _ => rfl
    | 9, _ => rfl
    | 10, _ => rfl
    | 11, _ => rfl
    | 12, _ => rfl
    | 13, _ => rfl
    | 14, _ => rfl
    | 15, _ => rfl
    | 16, _ => rfl
    | 17, _ => rfl
    | 18, _ => rfl
    | 19, _ => rfl
    | 20, _ => rfl
    | 21, _ => rfl
    | 22, _ => rfl
    | 23, _ => rfl
    | 24, _ => rfl
    | 25, _ => rfl
    | 26, _ => rfl
    | 27, _ => rfl
    | 28, _ => rfl
    | 29, _ => rfl
    | k + 30, hj => absurd hj (by omega)
    ) (fun _ v hv => by
      rcases List.mem_cons.mp hv with q | hv
      · rw [q]; trivial
      rcases List.mem_cons.mp hv with q | hv
      · rw [q]; trivial
      rcases List.mem_cons.mp hv with q | hv
      · rw [q]; trivial
      rcases List.mem_cons.mp hv with q | hv
      · rw [q]; trivial
      rcases List.mem_cons.mp hv with q | hv
      · rw [q]; trivial
      rcases List.mem_cons.mp hv with q | hv
      · rw [q]; trivial
      rcases List.mem_cons.mp hv with q | hv
      · rw [q]; trivial
      rcases List.mem_cons.mp hv with q | hv
      · rw [q]; trivial
      rcases List.mem_cons.mp hv with q | hv
      · rw [q]; trivial
      rcases List.mem_cons.mp hv with q | hv
      · rw [q]; trivial
      rcases List.mem_cons.mp hv with q | hv
      · rw [q]; trivial
      rcases List.mem_cons.mp hv with q | hv
      · rw [q]; trivial
      rcases List.mem_cons.mp hv with q | hv
      · rw [q]; trivial
      rcases List.mem_cons.mp hv with q | hv
      · rw [q]; trivial
      rcases List.mem_cons.mp hv with q | hv
      · rw [q]; trivial
      rcases List.mem_cons.mp hv with q | hv
      · rw [q]; trivial
      rcases List.mem_cons.mp hv with q | hv
      · rw [q]; trivial
      rcases List.mem_cons.mp hv with q | hv
      · rw [q]; trivial
      rcases List.mem_cons.mp hv with q | hv
      · rw [q]; trivial
      rcases List.mem_cons.mp hv with q | hv
      · rw [q]; trivial
      rcases List.mem_cons.mp hv with q | hv
      · rw [q]; trivial
      rcases List.mem_cons.mp hv with q | hv
      · rw [q]; trivial
      rcases List.mem_cons.mp hv with q | hv
      · rw [q]; trivial
      rcases List.mem_cons.mp hv with q | hv
      · rw [q]; trivial
      rcases List.mem_cons.mp hv with q | hv
      · rw [q]; trivial
      rcases List.mem_cons.mp hv with q | hv
      · rw [q]; trivial
      rcases List.mem_cons.mp hv with q | hv
      · rw [q]; trivial
      rcases List.mem_cons.mp hv with q | hv
      · rw [q]; trivial
      rcases List.mem_cons.mp hv with q | hv
      · rw [q]; trivial
      rcases List.mem_cons.mp hv with q | hv
      · rw [q]; trivial
      cases hv) hb1 hb2 k
set_option maxHeartbeats 1000000 in
theorem I_tape (hn : h.length = n) (hp : h[p]? = some (oO 4 [vN, vI 0, vI 0])) (hQ : Q none (h.set p (oO 4 [vR n, vI 0, vI 0]) ++ [oI 160 (fun _ => 0)])) : Cl X kX4_init [vR p] h Q := by
  refine cl_of rfl (Nat.le_of_ble_eq_true rfl) rfl ?_
  refine wp_re (ci_0 hp) ?_
  refine wp_aload_n dX4_init_0 rfl ?_
  refine wp_obj dX4_init_1 (tm1_9 (List.mem_of_getElem? (i := 3) rfl) rfl) (tm1_1 (List.mem_of_getElem? (i := 8) rfl) rfl) (tm1_1 (List.mem_of_getElem? (i := 9) rfl) rfl) (Nat.le_of_ble_eq_true rfl) (Nat.le_of_ble_eq_true rfl) ?_
  refine wp_aload_n dX4_init_4 rfl ?_
  refine wp_sipush dX4_init_5 rfl ?_
  refine wp_newi (N := 160) (b0 := (0, 0)) dX4_init_8 wA_int rfl (by decide) (by decide) (by decide) ?_
  refine wp_re (ci_ps) ?_
  refine wp_at (n := n) (ci_l hn) ?_
  show Wp X kX4_init 10 [some (vR p)] [vR n, vR p] (h.set p (oO 4 [vN, vI 0, vI 0]) ++ [oI 160 (fun _ => 0)]) (0, 0) Q
  refine wp_putv (fs' := [vR n, vI 0, vI 0]) dX4_init_10 pX4_9 (ci_p (gs_lt hp)) (Nat.le_of_ble_eq_true rfl) (fitF_arr _ _) rfl ?_
  refine wp_re (ci_sp (gs_lt hp)) ?_
  show Wp X kX4_init 13 [some (vR p)] [] (h.set p (oO 4 [vR n, vI 0, vI 0]) ++ [oI 160 (fun _ => 0)]) (0, 0) Q
  refine wp_ret dX4_init_13 rfl ?_
  exact hQ
set_option maxHeartbeats 1000000 in
theorem I_plan (hn : h.length = n) (hp : h[p]? = some (oO 2 [vN, vN, vN, vI 0])) (hQ : Q none (h.set p (oO 2 [vR n, vR (n + 1), vR (n + 2), vI 0]) ++ [oI 5 (fun _ => 0), oI 5 (fun _ => 0), oI 5 (fun _ => 0)])) : Cl X kX2_init [vR p] h Q := by
  refine cl_of rfl (Nat.le_of_ble_eq_true rfl) rfl ?_
  refine wp_re (ci_0 hp) ?_
  refine wp_aload_n dX2_init_0 rfl ?_
  refine wp_obj dX2_init_1 (tm1_10 (List.mem_of_getElem? (i := 5) rfl) rfl) (tm1_1 (List.mem_of_getElem? (i := 8) rfl) rfl) (tm1_1 (List.mem_of_getElem? (i := 9) rfl) rfl) (Nat.le_of_ble_eq_true rfl) (Nat.le_of_ble_eq_true rfl) ?_
  refine wp_aload_n dX2_init_4 rfl ?_
  refine wp_iconst dX2_init_5 ?_
  refine wp_newi (N := 5) (b0 := (2, 10)) dX2_init_6 wA_int rfl (by decide) (by decide) (by decide) ?_
  refine wp_re (ci_ps) ?_
  refine wp_at (n := n) (ci_l hn) ?_
  show Wp X kX2_init 8 [some (vR p)] [vR n, vR p] (h.set p (oO 2 [vN, vN, vN, vI 0]) ++ [oI 5 (fun _ => 0)]) (2, 10) Q
  refine wp_putv (fs' := [vR n, vN, vN, vI 0]) dX2_init_8 pX2_9 (ci_p (gs_lt hp)) (Nat.le_of_ble_eq_true rfl) (fitF_arr _ _) rfl ?_
  refine wp_re (ci_sp (gs_lt hp)) ?_
  show Wp X kX2_init 11 [some (vR p)] [] (h.set p (oO 2 [vR n, vN, vN, vI 0]) ++ [oI 5 (fun _ => 0)]) (2, 10) Q
  refine wp_aload_n dX2_init_11 rfl ?_
  refine wp_iconst dX2_init_12 ?_
  refine wp_newi (N := 5) (b0 := (1, 5)) dX2_init_13 wA_int rfl (by decide) (by decide) (by decide) ?_
  refine wp_re (ci_ps) ?_
  refine wp_at (n := n + 1) (ci_l hn) ?_
  show Wp X kX2_init 15 [some (vR p)] [vR (n + 1), vR p] (h.set p (oO 2 [vR n, vN, vN, vI 0]) ++ [oI 5 (fun _ => 0), oI 5 (fun _ => 0)]) (1, 5) Q
  refine wp_putv (fs' := [vR n, vR (n + 1), vN, vI 0]) dX2_init_15 pX2_15 (ci_p (gs_lt hp)) (Nat.le_of_ble_eq_true rfl) (fitF_arr _ _) rfl ?_
  refine wp_re (ci_sp (gs_lt hp)) ?_
  show Wp X kX2_init 18 [some (vR p)] [] (h.set p (oO 2 [vR n, vR (n + 1), vN, vI 0]) ++ [oI 5 (fun _ => 0), oI 5 (fun _ => 0)]) (1, 5) Q
  refine wp_aload_n dX2_init_18 rfl ?_
  refine wp_iconst dX2_init_19 ?_
  refine wp_newi (N := 5) (b0 := (0, 0)) dX2_init_20 wA_int rfl (by decide) (by decide) (by decide) ?_
  refine wp_re (ci_ps) ?_
  refine wp_at (n := n + 2) (ci_l hn) ?_
  show Wp X kX2_init 22 [some (vR p)] [vR (n + 2), vR p] (h.set p (oO 2 [vR n, vR (n + 1), vN, vI 0]) ++ [oI 5 (fun _ => 0), oI 5 (fun _ => 0), oI 5 (fun _ => 0)]) (0, 0) Q
  refine wp_putv (fs' := [vR n, vR (n + 1), vR (n + 2), vI 0]) dX2_init_22 pX2_18 (ci_p (gs_lt hp)) (Nat.le_of_ble_eq_true rfl) (fitF_arr _ _) rfl ?_
  refine wp_re (ci_sp (gs_lt hp)) ?_
  show Wp X kX2_init 25 [some (vR p)] [] (h.set p (oO 2 [vR n, vR (n + 1), vR (n + 2), vI 0]) ++ [oI 5 (fun _ => 0), oI 5 (fun _ => 0), oI 5 (fun _ => 0)]) (0, 0) Q
  refine wp_ret dX2_init_25 rfl ?_
  exact hQ
set_option maxHeartbeats 1000000 in
theorem I_orders {q : Nat} (hn : h.length = n) (hp : h[p]? = some (oO 1 [vN, vN, vN, vN, vN, vI 0, vI 0, vI 0, vI 0, vI 0])) (hQ : Q none (h.set p (oO 1 [vR q, vR n, vR (n + 1), vR (n + 2), vR (n + 3), vI 0, vI 0, vI 0, vI 0, vI 0]) ++ [oI 8 (fun _ => 0), oI 8 (fun _ => 0), oI 6 (fun _ => 0), oL 16 (fun _ => 0)])) : Cl X kX1_init [vR p, vR q] h Q := by
  refine cl_of rfl (Nat.le_of_ble_eq_true rfl) rfl ?_
  refine wp_re (ci_0 hp) ?_
  refine wp_aload_n dX1_init_0 rfl ?_
  refine wp_obj dX1_init_1 (tm1_6 (List.mem_of_getElem? (i := 13) rfl) rfl) (tm1_1 (List.mem_of_getElem? (i := 8) rfl) rfl) (tm1_1 (List.mem_of_getElem? (i := 9) rfl) rfl) (Nat.le_of_ble_eq_true rfl) (Nat.le_of_ble_eq_true rfl) ?_
  refine wp_aload_n dX1_init_4 rfl ?_
  refine wp_bipush dX1_init_5 rfl ?_
  refine wp_newi (N := 8) (b0 := (3, 30)) dX1_init_7 wA_int rfl (by decide) (by decide) (by decide) ?_
  refine wp_re (ci_ps) ?_
  refine wp_at (n := n) (ci_l hn) ?_
  show Wp X kX1_init 9 [some (vR p), some (vR q)] [vR n, vR p] (h.set p (oO 1 [vN, vN, vN, vN, vN, vI 0, vI 0, vI 0, vI 0, vI 0]) ++ [oI 8 (fun _ => 0)]) (3, 30) Q
  refine wp_putv (fs' := [vN, vR n, vN, vN, vN, vI 0, vI 0, vI 0, vI 0, vI 0]) dX1_init_9 pX1_9 (ci_p (gs_lt hp)) (Nat.le_of_ble_eq_true rfl) (fitF_arr _ _) rfl ?_
  refine wp_re (ci_sp (gs_lt hp)) ?_
  show Wp X kX1_init 12 [some (vR p), some (vR q)] [] (h.set p (oO 1 [vN, vR n, vN, vN, vN, vI 0, vI 0, vI 0, vI 0, vI 0]) ++ [oI 8 (fun _ => 0)]) (3, 30) Q
  refine wp_aload_n dX1_init_12 rfl ?_
  refine wp_bipush dX1_init_13 rfl ?_
  refine wp_newi (N := 8) (b0 := (2, 22)) dX1_init_15 wA_int rfl (by decide) (by decide) (by decide) ?_
  refine wp_re (ci_ps) ?_
  refine wp_at (n := n + 1) (ci_l hn) ?_
  show Wp X kX1_init 17 [some (vR p), some (vR q)] [vR (n + 1), vR p] (h.set p (oO 1 [vN, vR n, vN, vN, vN, vI 0, vI 0, vI 0, vI 0, vI 0]) ++ [oI 8 (fun _ => 0), oI 8 (fun _ => 0)]) (2, 22) Q
  refine wp_putv (fs' := [vN, vR n, vR (n + 1), vN, vN, vI 0, vI 0, vI 0, vI 0, vI 0]) dX1_init_17 pX1_15 (ci_p (gs_lt hp)) (Nat.le_of_ble_eq_true rfl) (fitF_arr _ _) rfl ?_
  refine wp_re (ci_sp (gs_lt hp)) ?_
  show Wp X kX1_init 20 [some (vR p), some (vR q)] [] (h.set p (oO 1 [vN, vR n, vR (n + 1), vN, vN, vI 0, vI 0, vI 0, vI 0, vI 0]) ++ [oI 8 (fun _ => 0), oI 8 (fun _ => 0)]) (2, 22) Q
  refine wp_aload_n dX1_init_20 rfl ?_
  refine wp_bipush dX1_init_21 rfl ?_
  refine wp_newi (N := 6) (b0 := (1, 16)) dX1_init_23 wA_int rfl (by decide) (by decide) (by decide) ?_
  refine wp_re (ci_ps) ?_
  refine wp_at (n := n + 2) (ci_l hn) ?_
  show Wp X kX1_init 25 [some (vR p), some (vR q)] [vR (n + 2), vR p] (h.set p (oO 1 [vN, vR n, vR (n + 1), vN, vN, vI 0, vI 0, vI 0, vI 0, vI 0]) ++ [oI 8 (fun _ => 0), oI 8 (fun _ => 0), oI 6 (fun _ => 0)]) (1, 16) Q
  refine wp_putv (fs' := [vN, vR n, vR (n + 1), vR (n + 2), vN, vI 0, vI 0, vI 0, vI 0, vI 0]) dX1_init_25 pX1_18 (ci_p (gs_lt hp)) (Nat.le_of_ble_eq_true rfl) (fitF_arr _ _) rfl ?_
  refine wp_re (ci_sp (gs_lt hp)) ?_
  show Wp X kX1_init 28 [some (vR p), some (vR q)] [] (h.set p (oO 1 [vN, vR n, vR (n + 1), vR (n + 2), vN, vI 0, vI 0, vI 0, vI 0, vI 0]) ++ [oI 8 (fun _ => 0), oI 8 (fun _ => 0), oI 6 (fun _ => 0)]) (1, 16) Q
  refine wp_aload_n dX1_init_28 rfl ?_
  refine wp_bipush dX1_init_29 rfl ?_
  refine wp_newl (N := 16) (b0 := (0, 0)) dX1_init_31 wA_long rfl (by decide) (by decide) (by decide) ?_
  refine wp_re (ci_ps) ?_
  refine wp_at (n := n + 3) (ci_l hn) ?_
  show Wp X kX1_init 33 [some (vR p), some (vR q)] [vR (n + 3), vR p] (h.set p (oO 1 [vN, vR n, vR (n + 1), vR (n + 2), vN, vI 0, vI 0, vI 0, vI 0, vI 0]) ++ [oI 8 (fun _ => 0), oI 8 (fun _ => 0), oI 6 (fun _ => 0), oL 16 (fun _ => 0)]) (0, 0) Q
  refine wp_putv (fs' := [vN, vR n, vR (n + 1), vR (n + 2), vR (n + 3), vI 0, vI 0, vI 0, vI 0, vI 0]) dX1_init_33 pX1_21 (ci_p (gs_lt hp)) (Nat.le_of_ble_eq_true rfl) (fitF_arr _ _) rfl ?_
  refine wp_re (ci_sp (gs_lt hp)) ?_
  show Wp X kX1_init 36 [some (vR p), some (vR q)] [] (h.set p (oO 1 [vN, vR n, vR (n + 1), vR (n + 2), vR (n + 3), vI 0, vI 0, vI 0, vI 0, vI 0]) ++ [oI 8 (fun _ => 0), oI 8 (fun _ => 0), oI 6 (fun _ => 0), oL 16 (fun _ => 0)]) (0, 0) Q
  refine wp_aload_n dX1_init_36 rfl ?_
  refine wp_aload_n dX1_init_37 rfl ?_
  refine wp_putv (fs' := [vR q, vR n, vR (n + 1), vR (n + 2), vR (n + 3), vI 0, vI 0, vI 0, vI 0, vI 0]) dX1_init_38 pX1_25 (ci_p (gs_lt hp)) (Nat.le_of_ble_eq_true rfl) (fitF_ref _ _) rfl ?_
  refine wp_re (ci_sp (gs_lt hp)) ?_
  show Wp X kX1_init 41 [some (vR p), some (vR q)] [] (h.set p (oO 1 [vR q, vR n, vR (n + 1), vR (n + 2), vR (n + 3), vI 0, vI 0, vI 0, vI 0, vI 0]) ++ [oI 8 (fun _ => 0), oI 8 (fun _ => 0), oI 6 (fun _ => 0), oL 16 (fun _ => 0)]) (0, 0) Q
  refine wp_ret dX1_init_41 rfl ?_
  exact hQ
set_option maxHeartbeats 1000000 in
theorem I_storm {q : Nat} (hn : h.length = n) (hp : h[p]? = some (oO 3 [vN, vI 0, vI 0, vI 0, vI 0])) (hQ : Q none (h.set p (oO 3 [vR q, vI 0, vI 0, vI 0, vI 0]) ++ [])) : Cl X kX3_init [vR p, vR q] h Q := by
  refine cl_of rfl (Nat.le_of_ble_eq_true rfl) rfl ?_
  refine wp_re (ci_0 hp) ?_
  refine wp_aload_n dX3_init_0 rfl ?_
  refine wp_obj dX3_init_1 (tm1_5 (List.mem_of_getElem? (i := 7) rfl) rfl) (tm1_1 (List.mem_of_getElem? (i := 8) rfl) rfl) (tm1_1 (List.mem_of_getElem? (i := 9) rfl) rfl) (Nat.le_of_ble_eq_true rfl) (Nat.le_of_ble_eq_true rfl) ?_
  refine wp_aload_n dX3_init_4 rfl ?_
  refine wp_aload_n dX3_init_5 rfl ?_
  refine wp_putv (fs' := [vR q, vI 0, vI 0, vI 0, vI 0]) dX3_init_6 pX3_9 (ci_p (gs_lt hp)) (Nat.le_of_ble_eq_true rfl) (fitF_ref _ _) rfl ?_
  refine wp_re (ci_sp (gs_lt hp)) ?_
  show Wp X kX3_init 9 [some (vR p), some (vR q)] [] (h.set p (oO 3 [vR q, vI 0, vI 0, vI 0, vI 0]) ++ []) (0, 0) Q
  refine wp_ret dX3_init_9 rfl ?_
  exact hQ
set_option maxHeartbeats 1000000 in
theorem I_history (hn : h.length = n) (hp : h[p]? = some (oO 0 [vN, vI 0, vI 0, vI 0])) (hQ : Q none (h.set p (oO 0 [vR n, vI 0, vI 0, vI 0]) ++ [oR 1 31 (fun _ => none)])) : Cl X kX0_init [vR p] h Q := by
  refine cl_of rfl (Nat.le_of_ble_eq_true rfl) rfl ?_
  refine wp_re (ci_0 hp) ?_
  refine wp_aload_n dX0_init_0 rfl ?_
  refine wp_obj dX0_init_1 (tm1_3 (List.mem_of_getElem? (i := 4) rfl) rfl) (tm1_1 (List.mem_of_getElem? (i := 8) rfl) rfl) (tm1_1 (List.mem_of_getElem? (i := 9) rfl) rfl) (Nat.le_of_ble_eq_true rfl) (Nat.le_of_ble_eq_true rfl) ?_
  refine wp_aload_n dX0_init_4 rfl ?_
  refine wp_bipush dX0_init_5 rfl ?_
  refine wp_newA (N := 31) (b0 := (0, 0)) dX0_init_7 (tm1_3 (List.mem_of_getElem? (i := 5) rfl) rfl) rfl (by decide) (by decide) (by decide) ?_
  refine wp_re (ci_ps) ?_
  refine wp_at (n := n) (ci_l hn) ?_
  show Wp X kX0_init 10 [some (vR p)] [vR n, vR p] (h.set p (oO 0 [vN, vI 0, vI 0, vI 0]) ++ [oR 1 31 (fun _ => none)]) (0, 0) Q
  refine wp_putv (fs' := [vR n, vI 0, vI 0, vI 0]) dX0_init_10 pX0_13 (ci_p (gs_lt hp)) (Nat.le_of_ble_eq_true rfl) (fitF_arr _ _) rfl ?_
  refine wp_re (ci_sp (gs_lt hp)) ?_
  show Wp X kX0_init 13 [some (vR p)] [] (h.set p (oO 0 [vR n, vI 0, vI 0, vI 0]) ++ [oR 1 31 (fun _ => none)]) (0, 0) Q
  refine wp_ret dX0_init_13 rfl ?_
  exact hQ
theorem xv_len : (xsC 0).length = 7 := rfl
/-- a new World's row -/
def wNew : Int → Int := (ud (ud (ud (ud (ud (ud (cpI (xv 0) (fun _ => 0) 0 3 7) ((cA 0) + 0) 0) ((cA 1) + 0) 1) ((cA 2) + 0) 2) ((cA 3) + 0) 3) ((cA 4) + 0) 4) ((cA 5) + 0) 5)
set_option maxHeartbeats 2000000 in
theorem I_world (hn : h.length = n) (hp : h[p]? = some (oO 5 [vN])) (hQ : Q none (h.set p (oO 5 [vR n]) ++ [oI 1060 wNew])) : Cl X kX5_init [vR p] h Q := by
  refine cl_of rfl (Nat.le_of_ble_eq_true rfl) rfl ?_
  refine wp_re (ci_0 hp) ?_
  refine wp_aload_n dX5_init_0 rfl ?_
  refine wp_obj dX5_init_1 (tm1_1 (List.mem_of_getElem? (i := 15) rfl) rfl) (tm1_1 (List.mem_of_getElem? (i := 8) rfl) rfl) (tm1_1 (List.mem_of_getElem? (i := 9) rfl) rfl) (Nat.le_of_ble_eq_true rfl) (Nat.le_of_ble_eq_true rfl) ?_
  refine wp_aload_n dX5_init_4 rfl ?_
  refine wp_sipush dX5_init_5 rfl ?_
  refine wp_newi (N := 1060) (b0 := (0, 0)) dX5_init_8 wA_int rfl (by decide) (by decide) (by decide) ?_
  refine wp_re (ci_ps) ?_
  refine wp_at (n := n) (ci_l hn) ?_
  show Wp X kX5_init 10 [some (vR p), none] [vR n, vR p] (h.set p (oO 5 [vN]) ++ [oI 1060 (fun _ => 0)]) (0, 0) Q
  refine wp_putv (fs' := [vR n]) dX5_init_10 pX5_11 (ci_p (gs_lt hp)) (Nat.le_of_ble_eq_true rfl) (fitF_arr _ _) rfl ?_
  refine wp_re (ci_sp (gs_lt hp)) ?_
  show Wp X kX5_init 13 [some (vR p), none] [] (h.set p (oO 5 [vR n]) ++ [oI 1060 (fun _ => 0)]) (0, 0) Q
  refine wp_gets 0 dX5_init_13 wsX5_15 (by decide) ?_
  refine wp_iconst dX5_init_16 ?_
  refine wp_aload_n dX5_init_17 rfl ?_
  refine wp_getf dX5_init_18 fX5_11 (ci_p (gs_lt hp)) rfl ?_
  refine wp_iconst dX5_init_21 ?_
  refine wp_bipush dX5_init_22 rfl ?_
  refine wp_copyx 0 dX5_init_24 aX5_18 (by decide) (ci_k (i := 0) hn rfl) (by decide) (by decide) (by decide) (by decide) (by decide) (by decide) (Nat.le_of_ble_eq_true rfl) (Nat.le_of_ble_eq_true rfl) ?_
  refine wp_re (ci_sk (i := 0) hn) ?_
  show Wp X kX5_init 27 [some (vR p), none] [] (h.set p (oO 5 [vR n]) ++ [oI 1060 (cpI (xv 0) (fun _ => 0) 0 3 7)]) (0, 0) Q
  refine wp_iconst dX5_init_27 ?_
  refine wp_istore_n (L' := [some (vR p), some (vI 0)]) dX5_init_28 (by decide) rfl ?_
  refine wp_iload_n dX5_init_29 rfl ?_
  refine wp_bipush dX5_init_30 rfl ?_
  refine wp_icmp_ge 53 dX5_init_32 rfl (by unfold r32; omega) (by unfold r32; omega) (fun q => absurd q (by decide)) (fun _ => ?_)
  refine wp_aload_n dX5_init_35 rfl ?_
  refine wp_getf dX5_init_36 fX5_11 (ci_p (gs_lt hp)) rfl ?_
  refine wp_iload_n dX5_init_39 rfl ?_
  refine wp_is1 dX5_init_40 SX5_handAt lX5_24 (rq0 rfl rfl) (Nat.le_of_ble_eq_true rfl) (C_whandAt ?_)
  show Wp X kX5_init 43 [some (vR p), some (vI 0)] [vI (cA 0), vR n] (h.set p (oO 5 [vR n]) ++ [oI 1060 (cpI (xv 0) (fun _ => 0) 0 3 7)]) (0, 0) Q
  refine wp_iconst dX5_init_43 ?_
  refine wp_iadd dX5_init_44 ?_
  show Wp X kX5_init 45 [some (vR p), some (vI 0)] [vI ((cA 0) + 0), vR n] (h.set p (oO 5 [vR n]) ++ [oI 1060 (cpI (xv 0) (fun _ => 0) 0 3 7)]) (0, 0) Q
  refine wp_iload_n dX5_init_45 rfl ?_
  refine wp_isv dX5_init_46 (ci_k (i := 0) hn rfl) (by decide) (by decide) ?_
  refine wp_re (ci_sk (i := 0) hn) ?_
  show Wp X kX5_init 47 [some (vR p), some (vI 0)] [] (h.set p (oO 5 [vR n]) ++ [oI 1060 (ud (cpI (xv 0) (fun _ => 0) 0 3 7) ((cA 0) + 0) 0)]) (0, 0) Q
  refine wp_iinc (L' := [some (vR p), some (vI 1)]) dX5_init_47 rfl rfl ?_
  refine wp_goto 29 dX5_init_50 rfl ?_
  refine wp_iload_n dX5_init_29 rfl ?_
  refine wp_bipush dX5_init_30 rfl ?_
  refine wp_icmp_ge 53 dX5_init_32 rfl (by unfold r32; omega) (by unfold r32; omega) (fun q => absurd q (by decide)) (fun _ => ?_)
  refine wp_aload_n dX5_init_35 rfl ?_
  refine wp_getf dX5_init_36 fX5_11 (ci_p (gs_lt hp)) rfl ?_
  refine wp_iload_n dX5_init_39 rfl ?_
  refine wp_is1 dX5_init_40 SX5_handAt lX5_24 (rq0 rfl rfl) (Nat.le_of_ble_eq_true rfl) (C_whandAt ?_)
  show Wp X kX5_init 43 [some (vR p), some (vI 1)] [vI (cA 1), vR n] (h.set p (oO 5 [vR n]) ++ [oI 1060 (ud (cpI (xv 0) (fun _ => 0) 0 3 7) ((cA 0) + 0) 0)]) (0, 0) Q
  refine wp_iconst dX5_init_43 ?_
  refine wp_iadd dX5_init_44 ?_
  show Wp X kX5_init 45 [some (vR p), some (vI 1)] [vI ((cA 1) + 0), vR n] (h.set p (oO 5 [vR n]) ++ [oI 1060 (ud (cpI (xv 0) (fun _ => 0) 0 3 7) ((cA 0) + 0) 0)]) (0, 0) Q
  refine wp_iload_n dX5_init_45 rfl ?_
  refine wp_isv dX5_init_46 (ci_k (i := 0) hn rfl) (by decide) (by decide) ?_
  refine wp_re (ci_sk (i := 0) hn) ?_
  show Wp X kX5_init 47 [some (vR p), some (vI 1)] [] (h.set p (oO 5 [vR n]) ++ [oI 1060 (ud (ud (cpI (xv 0) (fun _ => 0) 0 3 7) ((cA 0) + 0) 0) ((cA 1) + 0) 1)]) (0, 0) Q
  refine wp_iinc (L' := [some (vR p), some (vI 2)]) dX5_init_47 rfl rfl ?_
  refine wp_goto 29 dX5_init_50 rfl ?_
  refine wp_iload_n dX5_init_29 rfl ?_
  refine wp_bipush dX5_init_30 rfl ?_
  refine wp_icmp_ge 53 dX5_init_32 rfl (by unfold r32; omega) (by unfold r32; omega) (fun q => absurd q (by decide)) (fun _ => ?_)
  refine wp_aload_n dX5_init_35 rfl ?_
  refine wp_getf dX5_init_36 fX5_11 (ci_p (gs_lt hp)) rfl ?_
  refine wp_iload_n dX5_init_39 rfl ?_
  refine wp_is1 dX5_init_40 SX5_handAt lX5_24 (rq0 rfl rfl) (Nat.le_of_ble_eq_true rfl) (C_whandAt ?_)
  show Wp X kX5_init 43 [some (vR p), some (vI 2)] [vI (cA 2), vR n] (h.set p (oO 5 [vR n]) ++ [oI 1060 (ud (ud (cpI (xv 0) (fun _ => 0) 0 3 7) ((cA 0) + 0) 0) ((cA 1) + 0) 1)]) (0, 0) Q
  refine wp_iconst dX5_init_43 ?_
  refine wp_iadd dX5_init_44 ?_
  show Wp X kX5_init 45 [some (vR p), some (vI 2)] [vI ((cA 2) + 0), vR n] (h.set p (oO 5 [vR n]) ++ [oI 1060 (ud (ud (cpI (xv 0) (fun _ => 0) 0 3 7) ((cA 0) + 0) 0) ((cA 1) + 0) 1)]) (0, 0) Q
  refine wp_iload_n dX5_init_45 rfl ?_
  refine wp_isv dX5_init_46 (ci_k (i := 0) hn rfl) (by decide) (by decide) ?_
  refine wp_re (ci_sk (i := 0) hn) ?_
  show Wp X kX5_init 47 [some (vR p), some (vI 2)] [] (h.set p (oO 5 [vR n]) ++ [oI 1060 (ud (ud (ud (cpI (xv 0) (fun _ => 0) 0 3 7) ((cA 0) + 0) 0) ((cA 1) + 0) 1) ((cA 2) + 0) 2)]) (0, 0) Q
  refine wp_iinc (L' := [some (vR p), some (vI 3)]) dX5_init_47 rfl rfl ?_
  refine wp_goto 29 dX5_init_50 rfl ?_
  refine wp_iload_n dX5_init_29 rfl ?_
  refine wp_bipush dX5_init_30 rfl ?_
  refine wp_icmp_ge 53 dX5_init_32 rfl (by unfold r32; omega) (by unfold r32; omega) (fun q => absurd q (by decide)) (fun _ => ?_)
  refine wp_aload_n dX5_init_35 rfl ?_
  refine wp_getf dX5_init_36 fX5_11 (ci_p (gs_lt hp)) rfl ?_
  refine wp_iload_n dX5_init_39 rfl ?_
  refine wp_is1 dX5_init_40 SX5_handAt lX5_24 (rq0 rfl rfl) (Nat.le_of_ble_eq_true rfl) (C_whandAt ?_)
  show Wp X kX5_init 43 [some (vR p), some (vI 3)] [vI (cA 3), vR n] (h.set p (oO 5 [vR n]) ++ [oI 1060 (ud (ud (ud (cpI (xv 0) (fun _ => 0) 0 3 7) ((cA 0) + 0) 0) ((cA 1) + 0) 1) ((cA 2) + 0) 2)]) (0, 0) Q
  refine wp_iconst dX5_init_43 ?_
  refine wp_iadd dX5_init_44 ?_
  show Wp X kX5_init 45 [some (vR p), some (vI 3)] [vI ((cA 3) + 0), vR n] (h.set p (oO 5 [vR n]) ++ [oI 1060 (ud (ud (ud (cpI (xv 0) (fun _ => 0) 0 3 7) ((cA 0) + 0) 0) ((cA 1) + 0) 1) ((cA 2) + 0) 2)]) (0, 0) Q
  refine wp_iload_n dX5_init_45 rfl ?_
  refine wp_isv dX5_init_46 (ci_k (i := 0) hn rfl) (by decide) (by decide) ?_
  refine wp_re (ci_sk (i := 0) hn) ?_
  show Wp X kX5_init 47 [some (vR p), some (vI 3)] [] (h.set p (oO 5 [vR n]) ++ [oI 1060 (ud (ud (ud (ud (cpI (xv 0) (fun _ => 0) 0 3 7) ((cA 0) + 0) 0) ((cA 1) + 0) 1) ((cA 2) + 0) 2) ((cA 3) + 0) 3)]) (0, 0) Q
  refine wp_iinc (L' := [some (vR p), some (vI 4)]) dX5_init_47 rfl rfl ?_
  refine wp_goto 29 dX5_init_50 rfl ?_
  refine wp_iload_n dX5_init_29 rfl ?_
  refine wp_bipush dX5_init_30 rfl ?_
  refine wp_icmp_ge 53 dX5_init_32 rfl (by unfold r32; omega) (by unfold r32; omega) (fun q => absurd q (by decide)) (fun _ => ?_)
  refine wp_aload_n dX5_init_35 rfl ?_
  refine wp_getf dX5_init_36 fX5_11 (ci_p (gs_lt hp)) rfl ?_
  refine wp_iload_n dX5_init_39 rfl ?_
  refine wp_is1 dX5_init_40 SX5_handAt lX5_24 (rq0 rfl rfl) (Nat.le_of_ble_eq_true rfl) (C_whandAt ?_)
  show Wp X kX5_init 43 [some (vR p), some (vI 4)] [vI (cA 4), vR n] (h.set p (oO 5 [vR n]) ++ [oI 1060 (ud (ud (ud (ud (cpI (xv 0) (fun _ => 0) 0 3 7) ((cA 0) + 0) 0) ((cA 1) + 0) 1) ((cA 2) + 0) 2) ((cA 3) + 0) 3)]) (0, 0) Q
  refine wp_iconst dX5_init_43 ?_
  refine wp_iadd dX5_init_44 ?_
  show Wp X kX5_init 45 [some (vR p), some (vI 4)] [vI ((cA 4) + 0), vR n] (h.set p (oO 5 [vR n]) ++ [oI 1060 (ud (ud (ud (ud (cpI (xv 0) (fun _ => 0) 0 3 7) ((cA 0) + 0) 0) ((cA 1) + 0) 1) ((cA 2) + 0) 2) ((cA 3) + 0) 3)]) (0, 0) Q
  refine wp_iload_n dX5_init_45 rfl ?_
  refine wp_isv dX5_init_46 (ci_k (i := 0) hn rfl) (by decide) (by decide) ?_
  refine wp_re (ci_sk (i := 0) hn) ?_
  show Wp X kX5_init 47 [some (vR p), some (vI 4)] [] (h.set p (oO 5 [vR n]) ++ [oI 1060 (ud (ud (ud (ud (ud (cpI (xv 0) (fun _ => 0) 0 3 7) ((cA 0) + 0) 0) ((cA 1) + 0) 1) ((cA 2) + 0) 2) ((cA 3) + 0) 3) ((cA 4) + 0) 4)]) (0, 0) Q
  refine wp_iinc (L' := [some (vR p), some (vI 5)]) dX5_init_47 rfl rfl ?_
  refine wp_goto 29 dX5_init_50 rfl ?_
  refine wp_iload_n dX5_init_29 rfl ?_
  refine wp_bipush dX5_init_30 rfl ?_
  refine wp_icmp_ge 53 dX5_init_32 rfl (by unfold r32; omega) (by unfold r32; omega) (fun q => absurd q (by decide)) (fun _ => ?_)
  refine wp_aload_n dX5_init_35 rfl ?_
  refine wp_getf dX5_init_36 fX5_11 (ci_p (gs_lt hp)) rfl ?_
  refine wp_iload_n dX5_init_39 rfl ?_
  refine wp_is1 dX5_init_40 SX5_handAt lX5_24 (rq0 rfl rfl) (Nat.le_of_ble_eq_true rfl) (C_whandAt ?_)
  show Wp X kX5_init 43 [some (vR p), some (vI 5)] [vI (cA 5), vR n] (h.set p (oO 5 [vR n]) ++ [oI 1060 (ud (ud (ud (ud (ud (cpI (xv 0) (fun _ => 0) 0 3 7) ((cA 0) + 0) 0) ((cA 1) + 0) 1) ((cA 2) + 0) 2) ((cA 3) + 0) 3) ((cA 4) + 0) 4)]) (0, 0) Q
  refine wp_iconst dX5_init_43 ?_
  refine wp_iadd dX5_init_44 ?_
  show Wp X kX5_init 45 [some (vR p), some (vI 5)] [vI ((cA 5) + 0), vR n] (h.set p (oO 5 [vR n]) ++ [oI 1060 (ud (ud (ud (ud (ud (cpI (xv 0) (fun _ => 0) 0 3 7) ((cA 0) + 0) 0) ((cA 1) + 0) 1) ((cA 2) + 0) 2) ((cA 3) + 0) 3) ((cA 4) + 0) 4)]) (0, 0) Q
  refine wp_iload_n dX5_init_45 rfl ?_
  refine wp_isv dX5_init_46 (ci_k (i := 0) hn rfl) (by decide) (by decide) ?_
  refine wp_re (ci_sk (i := 0) hn) ?_
  show Wp X kX5_init 47 [some (vR p), some (vI 5)] [] (h.set p (oO 5 [vR n]) ++ [oI 1060 (ud (ud (ud (ud (ud (ud (cpI (xv 0) (fun _ => 0) 0 3 7) ((cA 0) + 0) 0) ((cA 1) + 0) 1) ((cA 2) + 0) 2) ((cA 3) + 0) 3) ((cA 4) + 0) 4) ((cA 5) + 0) 5)]) (0, 0) Q
  refine wp_iinc (L' := [some (vR p), some (vI 6)]) dX5_init_47 rfl rfl ?_
  refine wp_goto 29 dX5_init_50 rfl ?_
  refine wp_iload_n dX5_init_29 rfl ?_
  refine wp_bipush dX5_init_30 rfl ?_
  refine wp_icmp_ge 53 dX5_init_32 rfl (by unfold r32; omega) (by unfold r32; omega) (fun _ => ?_) (fun q => absurd (by decide) q)
  refine wp_ret dX5_init_53 rfl ?_
  exact hQ
end CI_
