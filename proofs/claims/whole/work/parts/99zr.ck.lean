/-! the reference's constructor -/
section CK_
variable {X : XS} {K : Kd} {pc : Nat} {L : List (Option AV)} {S : List AV} {h A B : AH} {b b0 : Nat × Nat} {Q : Option AV → AH → Prop} {g : Int → Int}

def sNew : Int → Int := (ud (ud (ud (ud (ud (ud (ud (ud (ud (ud (ud (ud (ud (ud (ud (ud (ud (ud (fun _ => 0) 3 4) 4 50) 5 5) 6 6) 7 2) 9 1) ((hA 0) + 0) 0) ((hA 0) + 1) (-1)) ((hA 1) + 0) 1) ((hA 1) + 1) (-1)) ((hA 2) + 0) 2) ((hA 2) + 1) (-1)) ((hA 3) + 0) 3) ((hA 3) + 1) (-1)) ((hA 4) + 0) 4) ((hA 4) + 1) (-1)) ((hA 5) + 0) 5) ((hA 5) + 1) (-1))
def vbNew : Int → Int := (ud (ud (ud (ud (ud (ud (ud (ud (fun _ => 0) 0 7348) 1 409067) 2 206220) 3 24716933) 4 1589657) 5 664683) 6 114052) 7 755277)
def zNew : Int → Int := (ud (ud (ud (ud (fun _ => 0) 0 (-1)) 1 (-1)) 2 (-1)) 3 (-1))
def mNew : AH := [oI 1014 sNew, oI 31434 (cpI sNew (fun _ => 0) 0 0 1014), oI 160 (fun _ => 0), oI 15 (fun _ => 0), oI 90 (fun _ => 0), oI 6 (fun _ => 0), oL 8 vbNew, oI 1014 (fun _ => 0), oI 8 (fun _ => 0), oI 8 (fun _ => 0), oI 6 (fun _ => 0), oZ 1000 (fun _ => 0), oZ 6 (fun _ => 0), oZ 6 (fun _ => 0), oZ 10 (fun _ => 0), oL 160 (fun _ => 0), oI 4 zNew, oI 1014 (fun _ => 0)]
set_option maxHeartbeats 16000000 in
set_option maxRecDepth 10000 in
theorem I_model (hn : h.length = 52) (hp : h[51]? = some (oO 7 [vN, vN, vI 0, vI 0, vN, vI 0, vI 0, vI 0, vN, vN, vN, vN, vN, vN, vN, vN, vN, vI 0, vI 0, vI 0, vI 0, vI 0, vI 0, vN, vN, vN, vN, vN, vN, vI 0])) (hQ : Q none (h.set 51 (oO 7 (mF 0 0 0 0 0 0 0 0 0 0 0 0)) ++ mNew)) : Cl X kX7_init [vR 51] h Q := by
  refine cl_of rfl (Nat.le_of_ble_eq_true rfl) rfl ?_
  refine wp_re (ci_0 hp) ?_
  refine wp_aload_n dX7_init_0 rfl ?_
  refine wp_obj dX7_init_1 (tm4_13 (List.mem_of_getElem? (i := 0) rfl) rfl) (tm1_1 (List.mem_of_getElem? (i := 8) rfl) rfl) (tm1_1 (List.mem_of_getElem? (i := 9) rfl) rfl) (Nat.le_of_ble_eq_true rfl) (Nat.le_of_ble_eq_true rfl) ?_
  refine wp_aload_n dX7_init_4 rfl ?_
  refine wp_sipush dX7_init_5 rfl ?_
  refine wp_newi (N := 1014) (b0 := (19, 35986)) dX7_init_8 wA_int rfl (by decide) (by decide) (by decide) ?_
  refine wp_re (ci_ps) ?_
  refine wp_at (n := 52) (ci_l hn) ?_
  show Wp X kX7_init 10 [some (vR 51), none] [vR 52, vR 51] (h.set 51 (oO 7 [vN, vN, vI 0, vI 0, vN, vI 0, vI 0, vI 0, vN, vN, vN, vN, vN, vN, vN, vN, vN, vI 0, vI 0, vI 0, vI 0, vI 0, vI 0, vN, vN, vN, vN, vN, vN, vI 0]) ++ [oI 1014 (fun _ => 0)]) (19, 35986) Q
  refine wp_putv (fs' := [vR 52, vN, vI 0, vI 0, vN, vI 0, vI 0, vI 0, vN, vN, vN, vN, vN, vN, vN, vN, vN, vI 0, vI 0, vI 0, vI 0, vI 0, vI 0, vN, vN, vN, vN, vN, vN, vI 0]) dX7_init_10 pX7_9 (ci_p (gs_lt hp)) (Nat.le_of_ble_eq_true rfl) (fitF_arr _ _) rfl ?_
  refine wp_re (ci_sp (gs_lt hp)) ?_
  show Wp X kX7_init 13 [some (vR 51), none] [] (h.set 51 (oO 7 [vR 52, vN, vI 0, vI 0, vN, vI 0, vI 0, vI 0, vN, vN, vN, vN, vN, vN, vN, vN, vN, vI 0, vI 0, vI 0, vI 0, vI 0, vI 0, vN, vN, vN, vN, vN, vN, vI 0]) ++ [oI 1014 (fun _ => 0)]) (19, 35986) Q
  refine wp_aload_n dX7_init_13 rfl ?_
  refine wp_sipush dX7_init_14 rfl ?_
  refine wp_newi (N := 31434) (b0 := (18, 4552)) dX7_init_17 wA_int rfl (by decide) (by decide) (by decide) ?_
  refine wp_re (ci_ps) ?_
  refine wp_at (n := 53) (ci_l hn) ?_
  show Wp X kX7_init 19 [some (vR 51), none] [vR 53, vR 51] (h.set 51 (oO 7 [vR 52, vN, vI 0, vI 0, vN, vI 0, vI 0, vI 0, vN, vN, vN, vN, vN, vN, vN, vN, vN, vI 0, vI 0, vI 0, vI 0, vI 0, vI 0, vN, vN, vN, vN, vN, vN, vI 0]) ++ [oI 1014 (fun _ => 0), oI 31434 (fun _ => 0)]) (18, 4552) Q
  refine wp_putv (fs' := [vR 52, vR 53, vI 0, vI 0, vN, vI 0, vI 0, vI 0, vN, vN, vN, vN, vN, vN, vN, vN, vN, vI 0, vI 0, vI 0, vI 0, vI 0, vI 0, vN, vN, vN, vN, vN, vN, vI 0]) dX7_init_19 pX7_13 (ci_p (gs_lt hp)) (Nat.le_of_ble_eq_true rfl) (fitF_arr _ _) rfl ?_
  refine wp_re (ci_sp (gs_lt hp)) ?_
  show Wp X kX7_init 22 [some (vR 51), none] [] (h.set 51 (oO 7 [vR 52, vR 53, vI 0, vI 0, vN, vI 0, vI 0, vI 0, vN, vN, vN, vN, vN, vN, vN, vN, vN, vI 0, vI 0, vI 0, vI 0, vI 0, vI 0, vN, vN, vN, vN, vN, vN, vI 0]) ++ [oI 1014 (fun _ => 0), oI 31434 (fun _ => 0)]) (18, 4552) Q
  refine wp_aload_n dX7_init_22 rfl ?_
  refine wp_sipush dX7_init_23 rfl ?_
  refine wp_newi (N := 160) (b0 := (17, 4392)) dX7_init_26 wA_int rfl (by decide) (by decide) (by decide) ?_
  refine wp_re (ci_ps) ?_
  refine wp_at (n := 54) (ci_l hn) ?_
  show Wp X kX7_init 28 [some (vR 51), none] [vR 54, vR 51] (h.set 51 (oO 7 [vR 52, vR 53, vI 0, vI 0, vN, vI 0, vI 0, vI 0, vN, vN, vN, vN, vN, vN, vN, vN, vN, vI 0, vI 0, vI 0, vI 0, vI 0, vI 0, vN, vN, vN, vN, vN, vN, vI 0]) ++ [oI 1014 (fun _ => 0), oI 31434 (fun _ => 0), oI 160 (fun _ => 0)]) (17, 4392) Q
  refine wp_putv (fs' := [vR 52, vR 53, vI 0, vI 0, vR 54, vI 0, vI 0, vI 0, vN, vN, vN, vN, vN, vN, vN, vN, vN, vI 0, vI 0, vI 0, vI 0, vI 0, vI 0, vN, vN, vN, vN, vN, vN, vI 0]) dX7_init_28 pX7_16 (ci_p (gs_lt hp)) (Nat.le_of_ble_eq_true rfl) (fitF_arr _ _) rfl ?_
  refine wp_re (ci_sp (gs_lt hp)) ?_
  show Wp X kX7_init 31 [some (vR 51), none] [] (h.set 51 (oO 7 [vR 52, vR 53, vI 0, vI 0, vR 54, vI 0, vI 0, vI 0, vN, vN, vN, vN, vN, vN, vN, vN, vN, vI 0, vI 0, vI 0, vI 0, vI 0, vI 0, vN, vN, vN, vN, vN, vN, vI 0]) ++ [oI 1014 (fun _ => 0), oI 31434 (fun _ => 0), oI 160 (fun _ => 0)]) (17, 4392) Q
  refine wp_aload_n dX7_init_31 rfl ?_
  refine wp_bipush dX7_init_32 rfl ?_
  refine wp_newi (N := 15) (b0 := (16, 4377)) dX7_init_34 wA_int rfl (by decide) (by decide) (by decide) ?_
  refine wp_re (ci_ps) ?_
  refine wp_at (n := 55) (ci_l hn) ?_
  show Wp X kX7_init 36 [some (vR 51), none] [vR 55, vR 51] (h.set 51 (oO 7 [vR 52, vR 53, vI 0, vI 0, vR 54, vI 0, vI 0, vI 0, vN, vN, vN, vN, vN, vN, vN, vN, vN, vI 0, vI 0, vI 0, vI 0, vI 0, vI 0, vN, vN, vN, vN, vN, vN, vI 0]) ++ [oI 1014 (fun _ => 0), oI 31434 (fun _ => 0), oI 160 (fun _ => 0), oI 15 (fun _ => 0)]) (16, 4377) Q
  refine wp_putv (fs' := [vR 52, vR 53, vI 0, vI 0, vR 54, vI 0, vI 0, vI 0, vR 55, vN, vN, vN, vN, vN, vN, vN, vN, vI 0, vI 0, vI 0, vI 0, vI 0, vI 0, vN, vN, vN, vN, vN, vN, vI 0]) dX7_init_36 pX7_19 (ci_p (gs_lt hp)) (Nat.le_of_ble_eq_true rfl) (fitF_arr _ _) rfl ?_
  refine wp_re (ci_sp (gs_lt hp)) ?_
  show Wp X kX7_init 39 [some (vR 51), none] [] (h.set 51 (oO 7 [vR 52, vR 53, vI 0, vI 0, vR 54, vI 0, vI 0, vI 0, vR 55, vN, vN, vN, vN, vN, vN, vN, vN, vI 0, vI 0, vI 0, vI 0, vI 0, vI 0, vN, vN, vN, vN, vN, vN, vI 0]) ++ [oI 1014 (fun _ => 0), oI 31434 (fun _ => 0), oI 160 (fun _ => 0), oI 15 (fun _ => 0)]) (16, 4377) Q
  refine wp_aload_n dX7_init_39 rfl ?_
  refine wp_bipush dX7_init_40 rfl ?_
  refine wp_newi (N := 90) (b0 := (15, 4287)) dX7_init_42 wA_int rfl (by decide) (by decide) (by decide) ?_
  refine wp_re (ci_ps) ?_
  refine wp_at (n := 56) (ci_l hn) ?_
  show Wp X kX7_init 44 [some (vR 51), none] [vR 56, vR 51] (h.set 51 (oO 7 [vR 52, vR 53, vI 0, vI 0, vR 54, vI 0, vI 0, vI 0, vR 55, vN, vN, vN, vN, vN, vN, vN, vN, vI 0, vI 0, vI 0, vI 0, vI 0, vI 0, vN, vN, vN, vN, vN, vN, vI 0]) ++ [oI 1014 (fun _ => 0), oI 31434 (fun _ => 0), oI 160 (fun _ => 0), oI 15 (fun _ => 0), oI 90 (fun _ => 0)]) (15, 4287) Q
  refine wp_putv (fs' := [vR 52, vR 53, vI 0, vI 0, vR 54, vI 0, vI 0, vI 0, vR 55, vR 56, vN, vN, vN, vN, vN, vN, vN, vI 0, vI 0, vI 0, vI 0, vI 0, vI 0, vN, vN, vN, vN, vN, vN, vI 0]) dX7_init_44 pX7_22 (ci_p (gs_lt hp)) (Nat.le_of_ble_eq_true rfl) (fitF_arr _ _) rfl ?_
  refine wp_re (ci_sp (gs_lt hp)) ?_
  show Wp X kX7_init 47 [some (vR 51), none] [] (h.set 51 (oO 7 [vR 52, vR 53, vI 0, vI 0, vR 54, vI 0, vI 0, vI 0, vR 55, vR 56, vN, vN, vN, vN, vN, vN, vN, vI 0, vI 0, vI 0, vI 0, vI 0, vI 0, vN, vN, vN, vN, vN, vN, vI 0]) ++ [oI 1014 (fun _ => 0), oI 31434 (fun _ => 0), oI 160 (fun _ => 0), oI 15 (fun _ => 0), oI 90 (fun _ => 0)]) (15, 4287) Q
  refine wp_aload_n dX7_init_47 rfl ?_
  refine wp_bipush dX7_init_48 rfl ?_
  refine wp_newi (N := 6) (b0 := (14, 4281)) dX7_init_50 wA_int rfl (by decide) (by decide) (by decide) ?_
  refine wp_re (ci_ps) ?_
  refine wp_at (n := 57) (ci_l hn) ?_
  show Wp X kX7_init 52 [some (vR 51), none] [vR 57, vR 51] (h.set 51 (oO 7 [vR 52, vR 53, vI 0, vI 0, vR 54, vI 0, vI 0, vI 0, vR 55, vR 56, vN, vN, vN, vN, vN, vN, vN, vI 0, vI 0, vI 0, vI 0, vI 0, vI 0, vN, vN, vN, vN, vN, vN, vI 0]) ++ [oI 1014 (fun _ => 0), oI 31434 (fun _ => 0), oI 160 (fun _ => 0), oI 15 (fun _ => 0), oI 90 (fun _ => 0), oI 6 (fun _ => 0)]) (14, 4281) Q
  refine wp_putv (fs' := [vR 52, vR 53, vI 0, vI 0, vR 54, vI 0, vI 0, vI 0, vR 55, vR 56, vR 57, vN, vN, vN, vN, vN, vN, vI 0, vI 0, vI 0, vI 0, vI 0, vI 0, vN, vN, vN, vN, vN, vN, vI 0]) dX7_init_52 pX7_25 (ci_p (gs_lt hp)) (Nat.le_of_ble_eq_true rfl) (fitF_arr _ _) rfl ?_
  refine wp_re (ci_sp (gs_lt hp)) ?_
  show Wp X kX7_init 55 [some (vR 51), none] [] (h.set 51 (oO 7 [vR 52, vR 53, vI 0, vI 0, vR 54, vI 0, vI 0, vI 0, vR 55, vR 56, vR 57, vN, vN, vN, vN, vN, vN, vI 0, vI 0, vI 0, vI 0, vI 0, vI 0, vN, vN, vN, vN, vN, vN, vI 0]) ++ [oI 1014 (fun _ => 0), oI 31434 (fun _ => 0), oI 160 (fun _ => 0), oI 15 (fun _ => 0), oI 90 (fun _ => 0), oI 6 (fun _ => 0)]) (14, 4281) Q
  refine wp_aload_n dX7_init_55 rfl ?_
  refine wp_bipush dX7_init_56 rfl ?_
  refine wp_newl (N := 8) (b0 := (13, 4273)) dX7_init_58 wA_long rfl (by decide) (by decide) (by decide) ?_
  refine wp_re (ci_ps) ?_
  refine wp_at (n := 58) (ci_l hn) ?_
  show Wp X kX7_init 60 [some (vR 51), none] [vR 58, vR 51] (h.set 51 (oO 7 [vR 52, vR 53, vI 0, vI 0, vR 54, vI 0, vI 0, vI 0, vR 55, vR 56, vR 57, vN, vN, vN, vN, vN, vN, vI 0, vI 0, vI 0, vI 0, vI 0, vI 0, vN, vN, vN, vN, vN, vN, vI 0]) ++ [oI 1014 (fun _ => 0), oI 31434 (fun _ => 0), oI 160 (fun _ => 0), oI 15 (fun _ => 0), oI 90 (fun _ => 0), oI 6 (fun _ => 0), oL 8 (fun _ => 0)]) (13, 4273) Q
  refine wp_dup dX7_init_60 rfl ?_
  refine wp_iconst dX7_init_61 ?_
  refine wp_ldc2 dX7_init_62 cX7_28 ?_
  refine wp_lsv dX7_init_65 (ci_k (i := 6) hn rfl) (by decide) (by decide) ?_
  refine wp_re (ci_sk (i := 6) hn) ?_
  show Wp X kX7_init 66 [some (vR 51), none] [vR 58, vR 51] (h.set 51 (oO 7 [vR 52, vR 53, vI 0, vI 0, vR 54, vI 0, vI 0, vI 0, vR 55, vR 56, vR 57, vN, vN, vN, vN, vN, vN, vI 0, vI 0, vI 0, vI 0, vI 0, vI 0, vN, vN, vN, vN, vN, vN, vI 0]) ++ [oI 1014 (fun _ => 0), oI 31434 (fun _ => 0), oI 160 (fun _ => 0), oI 15 (fun _ => 0), oI 90 (fun _ => 0), oI 6 (fun _ => 0), oL 8 (ud (fun _ => 0) 0 7348)]) (13, 4273) Q
  refine wp_dup dX7_init_66 rfl ?_
  refine wp_iconst dX7_init_67 ?_
  refine wp_ldc2 dX7_init_68 cX7_30 ?_
  refine wp_lsv dX7_init_71 (ci_k (i := 6) hn rfl) (by decide) (by decide) ?_
  refine wp_re (ci_sk (i := 6) hn) ?_
  show Wp X kX7_init 72 [some (vR 51), none] [vR 58, vR 51] (h.set 51 (oO 7 [vR 52, vR 53, vI 0, vI 0, vR 54, vI 0, vI 0, vI 0, vR 55, vR 56, vR 57, vN, vN, vN, vN, vN, vN, vI 0, vI 0, vI 0, vI 0, vI 0, vI 0, vN, vN, vN, vN, vN, vN, vI 0]) ++ [oI 1014 (fun _ => 0), oI 31434 (fun _ => 0), oI 160 (fun _ => 0), oI 15 (fun _ => 0), oI 90 (fun _ => 0), oI 6 (fun _ => 0), oL 8 (ud (ud (fun _ => 0) 0 7348) 1 409067)]) (13, 4273) Q
  refine wp_dup dX7_init_72 rfl ?_
  refine wp_iconst dX7_init_73 ?_
  refine wp_ldc2 dX7_init_74 cX7_32 ?_
  refine wp_lsv dX7_init_77 (ci_k (i := 6) hn rfl) (by decide) (by decide) ?_
  refine wp_re (ci_sk (i := 6) hn) ?_
  show Wp X kX7_init 78 [some (vR 51), none] [vR 58, vR 51] (h.set 51 (oO 7 [vR 52, vR 53, vI 0, vI 0, vR 54, vI 0, vI 0, vI 0, vR 55, vR 56, vR 57, vN, vN, vN, vN, vN, vN, vI 0, vI 0, vI 0, vI 0, vI 0, vI 0, vN, vN, vN, vN, vN, vN, vI 0]) ++ [oI 1014 (fun _ => 0), oI 31434 (fun _ => 0), oI 160 (fun _ => 0), oI 15 (fun _ => 0), oI 90 (fun _ => 0), oI 6 (fun _ => 0), oL 8 (ud (ud (ud (fun _ => 0) 0 7348) 1 409067) 2 206220)]) (13, 4273) Q
  refine wp_dup dX7_init_78 rfl ?_
  refine wp_iconst dX7_init_79 ?_
  refine wp_ldc2 dX7_init_80 cX7_34 ?_
  refine wp_lsv dX7_init_83 (ci_k (i := 6) hn rfl) (by decide) (by decide) ?_
  refine wp_re (ci_sk (i := 6) hn) ?_
  show Wp X kX7_init 84 [some (vR 51), none] [vR 58, vR 51] (h.set 51 (oO 7 [vR 52, vR 53, vI 0, vI 0, vR 54, vI 0, vI 0, vI 0, vR 55, vR 56, vR 57, vN, vN, vN, vN, vN, vN, vI 0, vI 0, vI 0, vI 0, vI 0, vI 0, vN, vN, vN, vN, vN, vN, vI 0]) ++ [oI 1014 (fun _ => 0), oI 31434 (fun _ => 0), oI 160 (fun _ => 0), oI 15 (fun _ => 0), oI 90 (fun _ => 0), oI 6 (fun _ => 0), oL 8 (ud (ud (ud (ud (fun _ => 0) 0 7348) 1 409067) 2 206220) 3 24716933)]) (13, 4273) Q
  refine wp_dup dX7_init_84 rfl ?_
  refine wp_iconst dX7_init_85 ?_
  refine wp_ldc2 dX7_init_86 cX7_36 ?_
  refine wp_lsv dX7_init_89 (ci_k (i := 6) hn rfl) (by decide) (by decide) ?_
  refine wp_re (ci_sk (i := 6) hn) ?_
  show Wp X kX7_init 90 [some (vR 51), none] [vR 58, vR 51] (h.set 51 (oO 7 [vR 52, vR 53, vI 0, vI 0, vR 54, vI 0, vI 0, vI 0, vR 55, vR 56, vR 57, vN, vN, vN, vN, vN, vN, vI 0, vI 0, vI 0, vI 0, vI 0, vI 0, vN, vN, vN, vN, vN, vN, vI 0]) ++ [oI 1014 (fun _ => 0), oI 31434 (fun _ => 0), oI 160 (fun _ => 0), oI 15 (fun _ => 0), oI 90 (fun _ => 0), oI 6 (fun _ => 0), oL 8 (ud (ud (ud (ud (ud (fun _ => 0) 0 7348) 1 409067) 2 206220) 3 24716933) 4 1589657)]) (13, 4273) Q
  refine wp_dup dX7_init_90 rfl ?_
  refine wp_iconst dX7_init_91 ?_
  refine wp_ldc2 dX7_init_92 cX7_38 ?_
  refine wp_lsv dX7_init_95 (ci_k (i := 6) hn rfl) (by decide) (by decide) ?_
  refine wp_re (ci_sk (i := 6) hn) ?_
  show Wp X kX7_init 96 [some (vR 51), none] [vR 58, vR 51] (h.set 51 (oO 7 [vR 52, vR 53, vI 0, vI 0, vR 54, vI 0, vI 0, vI 0, vR 55, vR 56, vR 57, vN, vN, vN, vN, vN, vN, vI 0, vI 0, vI 0, vI 0, vI 0, vI 0, vN, vN, vN, vN, vN, vN, vI 0]) ++ [oI 1014 (fun _ => 0), oI 31434 (fun _ => 0), oI 160 (fun _ => 0), oI 15 (fun _ => 0), oI 90 (fun _ => 0), oI 6 (fun _ => 0), oL 8 (ud (ud (ud (ud (ud (ud (fun _ => 0) 0 7348) 1 409067) 2 206220) 3 24716933) 4 1589657) 5 664683)]) (13, 4273) Q
  refine wp_dup dX7_init_96 rfl ?_
  refine wp_bipush dX7_init_97 rfl ?_
  refine wp_ldc2 dX7_init_99 cX7_40 ?_
  refine wp_lsv dX7_init_102 (ci_k (i := 6) hn rfl) (by decide) (by decide) ?_
  refine wp_re (ci_sk (i := 6) hn) ?_
  show Wp X kX7_init 103 [some (vR 51), none] [vR 58, vR 51] (h.set 51 (oO 7 [vR 52, vR 53, vI 0, vI 0, vR 54, vI 0, vI 0, vI 0, vR 55, vR 56, vR 57, vN, vN, vN, vN, vN, vN, vI 0, vI 0, vI 0, vI 0, vI 0, vI 0, vN, vN, vN, vN, vN, vN, vI 0]) ++ [oI 1014 (fun _ => 0), oI 31434 (fun _ => 0), oI 160 (fun _ => 0), oI 15 (fun _ => 0), oI 90 (fun _ => 0), oI 6 (fun _ => 0), oL 8 (ud (ud (ud (ud (ud (ud (ud (fun _ => 0) 0 7348) 1 409067) 2 206220) 3 24716933) 4 1589657) 5 664683) 6 114052)]) (13, 4273) Q
  refine wp_dup dX7_init_103 rfl ?_
  refine wp_bipush dX7_init_104 rfl ?_
  refine wp_ldc2 dX7_init_106 cX7_42 ?_
  refine wp_lsv dX7_init_109 (ci_k (i := 6) hn rfl) (by decide) (by decide) ?_
  refine wp_re (ci_sk (i := 6) hn) ?_
  show Wp X kX7_init 110 [some (vR 51), none] [vR 58, vR 51] (h.set 51 (oO 7 [vR 52, vR 53, vI 0, vI 0, vR 54, vI 0, vI 0, vI 0, vR 55, vR 56, vR 57, vN, vN, vN, vN, vN, vN, vI 0, vI 0, vI 0, vI 0, vI 0, vI 0, vN, vN, vN, vN, vN, vN, vI 0]) ++ [oI 1014 (fun _ => 0), oI 31434 (fun _ => 0), oI 160 (fun _ => 0), oI 15 (fun _ => 0), oI 90 (fun _ => 0), oI 6 (fun _ => 0), oL 8 (ud (ud (ud (ud (ud (ud (ud (ud (fun _ => 0) 0 7348) 1 409067) 2 206220) 3 24716933) 4 1589657) 5 664683) 6 114052) 7 755277)]) (13, 4273) Q
  refine wp_putv (fs' := [vR 52, vR 53, vI 0, vI 0, vR 54, vI 0, vI 0, vI 0, vR 55, vR 56, vR 57, vR 58, vN, vN, vN, vN, vN, vI 0, vI 0, vI 0, vI 0, vI 0, vI 0, vN, vN, vN, vN, vN, vN, vI 0]) dX7_init_110 pX7_44 (ci_p (gs_lt hp)) (Nat.le_of_ble_eq_true rfl) (fitF_arr _ _) rfl ?_
  refine wp_re (ci_sp (gs_lt hp)) ?_
  show Wp X kX7_init 113 [some (vR 51), none] [] (h.set 51 (oO 7 [vR 52, vR 53, vI 0, vI 0, vR 54, vI 0, vI 0, vI 0, vR 55, vR 56, vR 57, vR 58, vN, vN, vN, vN, vN, vI 0, vI 0, vI 0, vI 0, vI 0, vI 0, vN, vN, vN, vN, vN, vN, vI 0]) ++ [oI 1014 (fun _ => 0), oI 31434 (fun _ => 0), oI 160 (fun _ => 0), oI 15 (fun _ => 0), oI 90 (fun _ => 0), oI 6 (fun _ => 0), oL 8 (ud (ud (ud (ud (ud (ud (ud (ud (fun _ => 0) 0 7348) 1 409067) 2 206220) 3 24716933) 4 1589657) 5 664683) 6 114052) 7 755277)]) (13, 4273) Q
  refine wp_aload_n dX7_init_113 rfl ?_
  refine wp_sipush dX7_init_114 rfl ?_
  refine wp_newi (N := 1014) (b0 := (12, 3259)) dX7_init_117 wA_int rfl (by decide) (by decide) (by decide) ?_
  refine wp_re (ci_ps) ?_
  refine wp_at (n := 59) (ci_l hn) ?_
  show Wp X kX7_init 119 [some (vR 51), none] [vR 59, vR 51] (h.set 51 (oO 7 [vR 52, vR 53, vI 0, vI 0, vR 54, vI 0, vI 0, vI 0, vR 55, vR 56, vR 57, vR 58, vN, vN, vN, vN, vN, vI 0, vI 0, vI 0, vI 0, vI 0, vI 0, vN, vN, vN, vN, vN, vN, vI 0]) ++ [oI 1014 (fun _ => 0), oI 31434 (fun _ => 0), oI 160 (fun _ => 0), oI 15 (fun _ => 0), oI 90 (fun _ => 0), oI 6 (fun _ => 0), oL 8 (ud (ud (ud (ud (ud (ud (ud (ud (fun _ => 0) 0 7348) 1 409067) 2 206220) 3 24716933) 4 1589657) 5 664683) 6 114052) 7 755277), oI 1014 (fun _ => 0)]) (12, 3259) Q
  refine wp_putv (fs' := [vR 52, vR 53, vI 0, vI 0, vR 54, vI 0, vI 0, vI 0, vR 55, vR 56, vR 57, vR 58, vR 59, vN, vN, vN, vN, vI 0, vI 0, vI 0, vI 0, vI 0, vI 0, vN, vN, vN, vN, vN, vN, vI 0]) dX7_init_119 pX7_48 (ci_p (gs_lt hp)) (Nat.le_of_ble_eq_true rfl) (fitF_arr _ _) rfl ?_
  refine wp_re (ci_sp (gs_lt hp)) ?_
  show Wp X kX7_init 122 [some (vR 51), none] [] (h.set 51 (oO 7 [vR 52, vR 53, vI 0, vI 0, vR 54, vI 0, vI 0, vI 0, vR 55, vR 56, vR 57, vR 58, vR 59, vN, vN, vN, vN, vI 0, vI 0, vI 0, vI 0, vI 0, vI 0, vN, vN, vN, vN, vN, vN, vI 0]) ++ [oI 1014 (fun _ => 0), oI 31434 (fun _ => 0), oI 160 (fun _ => 0), oI 15 (fun _ => 0), oI 90 (fun _ => 0), oI 6 (fun _ => 0), oL 8 (ud (ud (ud (ud (ud (ud (ud (ud (fun _ => 0) 0 7348) 1 409067) 2 206220) 3 24716933) 4 1589657) 5 664683) 6 114052) 7 755277), oI 1014 (fun _ => 0)]) (12, 3259) Q
  refine wp_aload_n dX7_init_122 rfl ?_
  refine wp_bipush dX7_init_123 rfl ?_
  refine wp_newi (N := 8) (b0 := (11, 3251)) dX7_init_125 wA_int rfl (by decide) (by decide) (by decide) ?_
  refine wp_re (ci_ps) ?_
  refine wp_at (n := 60) (ci_l hn) ?_
  show Wp X kX7_init 127 [some (vR 51), none] [vR 60, vR 51] (h.set 51 (oO 7 [vR 52, vR 53, vI 0, vI 0, vR 54, vI 0, vI 0, vI 0, vR 55, vR 56, vR 57, vR 58, vR 59, vN, vN, vN, vN, vI 0, vI 0, vI 0, vI 0, vI 0, vI 0, vN, vN, vN, vN, vN, vN, vI 0]) ++ [oI 1014 (fun _ => 0), oI 31434 (fun _ => 0), oI 160 (fun _ => 0), oI 15 (fun _ => 0), oI 90 (fun _ => 0), oI 6 (fun _ => 0), oL 8 (ud (ud (ud (ud (ud (ud (ud (ud (fun _ => 0) 0 7348) 1 409067) 2 206220) 3 24716933) 4 1589657) 5 664683) 6 114052) 7 755277), oI 1014 (fun _ => 0), oI 8 (fun _ => 0)]) (11, 3251) Q
  refine wp_putv (fs' := [vR 52, vR 53, vI 0, vI 0, vR 54, vI 0, vI 0, vI 0, vR 55, vR 56, vR 57, vR 58, vR 59, vR 60, vN, vN, vN, vI 0, vI 0, vI 0, vI 0, vI 0, vI 0, vN, vN, vN, vN, vN, vN, vI 0]) dX7_init_127 pX7_51 (ci_p (gs_lt hp)) (Nat.le_of_ble_eq_true rfl) (fitF_arr _ _) rfl ?_
  refine wp_re (ci_sp (gs_lt hp)) ?_
  show Wp X kX7_init 130 [some (vR 51), none] [] (h.set 51 (oO 7 [vR 52, vR 53, vI 0, vI 0, vR 54, vI 0, vI 0, vI 0, vR 55, vR 56, vR 57, vR 58, vR 59, vR 60, vN, vN, vN, vI 0, vI 0, vI 0, vI 0, vI 0, vI 0, vN, vN, vN, vN, vN, vN, vI 0]) ++ [oI 1014 (fun _ => 0), oI 31434 (fun _ => 0), oI 160 (fun _ => 0), oI 15 (fun _ => 0), oI 90 (fun _ => 0), oI 6 (fun _ => 0), oL 8 (ud (ud (ud (ud (ud (ud (ud (ud (fun _ => 0) 0 7348) 1 409067) 2 206220) 3 24716933) 4 1589657) 5 664683) 6 114052) 7 755277), oI 1014 (fun _ => 0), oI 8 (fun _ => 0)]) (11, 3251) Q
  refine wp_aload_n dX7_init_130 rfl ?_
  refine wp_bipush dX7_init_131 rfl ?_
  refine wp_newi (N := 8) (b0 := (10, 3243)) dX7_init_133 wA_int rfl (by decide) (by decide) (by decide) ?_
  refine wp_re (ci_ps) ?_
  refine wp_at (n := 61) (ci_l hn) ?_
  show Wp X kX7_init 135 [some (vR 51), none] [vR 61, vR 51] (h.set 51 (oO 7 [vR 52, vR 53, vI 0, vI 0, vR 54, vI 0, vI 0, vI 0, vR 55, vR 56, vR 57, vR 58, vR 59, vR 60, vN, vN, vN, vI 0, vI 0, vI 0, vI 0, vI 0, vI 0, vN, vN, vN, vN, vN, vN, vI 0]) ++ [oI 1014 (fun _ => 0), oI 31434 (fun _ => 0), oI 160 (fun _ => 0), oI 15 (fun _ => 0), oI 90 (fun _ => 0), oI 6 (fun _ => 0), oL 8 (ud (ud (ud (ud (ud (ud (ud (ud (fun _ => 0) 0 7348) 1 409067) 2 206220) 3 24716933) 4 1589657) 5 664683) 6 114052) 7 755277), oI 1014 (fun _ => 0), oI 8 (fun _ => 0), oI 8 (fun _ => 0)]) (10, 3243) Q
  refine wp_putv (fs' := [vR 52, vR 53, vI 0, vI 0, vR 54, vI 0, vI 0, vI 0, vR 55, vR 56, vR 57, vR 58, vR 59, vR 60, vR 61, vN, vN, vI 0, vI 0, vI 0, vI 0, vI 0, vI 0, vN, vN, vN, vN, vN, vN, vI 0]) dX7_init_135 pX7_54 (ci_p (gs_lt hp)) (Nat.le_of_ble_eq_true rfl) (fitF_arr _ _) rfl ?_
  refine wp_re (ci_sp (gs_lt hp)) ?_
  show Wp X kX7_init 138 [some (vR 51), none] [] (h.set 51 (oO 7 [vR 52, vR 53, vI 0, vI 0, vR 54, vI 0, vI 0, vI 0, vR 55, vR 56, vR 57, vR 58, vR 59, vR 60, vR 61, vN, vN, vI 0, vI 0, vI 0, vI 0, vI 0, vI 0, vN, vN, vN, vN, vN, vN, vI 0]) ++ [oI 1014 (fun _ => 0), oI 31434 (fun _ => 0), oI 160 (fun _ => 0), oI 15 (fun _ => 0), oI 90 (fun _ => 0), oI 6 (fun _ => 0), oL 8 (ud (ud (ud (ud (ud (ud (ud (ud (fun _ => 0) 0 7348) 1 409067) 2 206220) 3 24716933) 4 1589657) 5 664683) 6 114052) 7 755277), oI 1014 (fun _ => 0), oI 8 (fun _ => 0), oI 8 (fun _ => 0)]) (10, 3243) Q
  refine wp_aload_n dX7_init_138 rfl ?_
  refine wp_bipush dX7_init_139 rfl ?_
  refine wp_newi (N := 6) (b0 := (9, 3237)) dX7_init_141 wA_int rfl (by decide) (by decide) (by decide) ?_
  refine wp_re (ci_ps) ?_
  refine wp_at (n := 62) (ci_l hn) ?_
  show Wp X kX7_init 143 [some (vR 51), none] [vR 62, vR 51] (h.set 51 (oO 7 [vR 52, vR 53, vI 0, vI 0, vR 54, vI 0, vI 0, vI 0, vR 55, vR 56, vR 57, vR 58, vR 59, vR 60, vR 61, vN, vN, vI 0, vI 0, vI 0, vI 0, vI 0, vI 0, vN, vN, vN, vN, vN, vN, vI 0]) ++ [oI 1014 (fun _ => 0), oI 31434 (fun _ => 0), oI 160 (fun _ => 0), oI 15 (fun _ => 0), oI 90 (fun _ => 0), oI 6 (fun _ => 0), oL 8 (ud (ud (ud (ud (ud (ud (ud (ud (fun _ => 0) 0 7348) 1 409067) 2 206220) 3 24716933) 4 1589657) 5 664683) 6 114052) 7 755277), oI 1014 (fun _ => 0), oI 8 (fun _ => 0), oI 8 (fun _ => 0), oI 6 (fun _ => 0)]) (9, 3237) Q
  refine wp_putv (fs' := [vR 52, vR 53, vI 0, vI 0, vR 54, vI 0, vI 0, vI 0, vR 55, vR 56, vR 57, vR 58, vR 59, vR 60, vR 61, vR 62, vN, vI 0, vI 0, vI 0, vI 0, vI 0, vI 0, vN, vN, vN, vN, vN, vN, vI 0]) dX7_init_143 pX7_57 (ci_p (gs_lt hp)) (Nat.le_of_ble_eq_true rfl) (fitF_arr _ _) rfl ?_
  refine wp_re (ci_sp (gs_lt hp)) ?_
  show Wp X kX7_init 146 [some (vR 51), none] [] (h.set 51 (oO 7 [vR 52, vR 53, vI 0, vI 0, vR 54, vI 0, vI 0, vI 0, vR 55, vR 56, vR 57, vR 58, vR 59, vR 60, vR 61, vR 62, vN, vI 0, vI 0, vI 0, vI 0, vI 0, vI 0, vN, vN, vN, vN, vN, vN, vI 0]) ++ [oI 1014 (fun _ => 0), oI 31434 (fun _ => 0), oI 160 (fun _ => 0), oI 15 (fun _ => 0), oI 90 (fun _ => 0), oI 6 (fun _ => 0), oL 8 (ud (ud (ud (ud (ud (ud (ud (ud (fun _ => 0) 0 7348) 1 409067) 2 206220) 3 24716933) 4 1589657) 5 664683) 6 114052) 7 755277), oI 1014 (fun _ => 0), oI 8 (fun _ => 0), oI 8 (fun _ => 0), oI 6 (fun _ => 0)]) (9, 3237) Q
  refine wp_aload_n dX7_init_146 rfl ?_
  refine wp_sipush dX7_init_147 rfl ?_
  refine wp_newz (N := 1000) (b0 := (8, 2237)) dX7_init_150 wA_boolean rfl (by decide) (by decide) (by decide) ?_
  refine wp_re (ci_ps) ?_
  refine wp_at (n := 63) (ci_l hn) ?_
  show Wp X kX7_init 152 [some (vR 51), none] [vR 63, vR 51] (h.set 51 (oO 7 [vR 52, vR 53, vI 0, vI 0, vR 54, vI 0, vI 0, vI 0, vR 55, vR 56, vR 57, vR 58, vR 59, vR 60, vR 61, vR 62, vN, vI 0, vI 0, vI 0, vI 0, vI 0, vI 0, vN, vN, vN, vN, vN, vN, vI 0]) ++ [oI 1014 (fun _ => 0), oI 31434 (fun _ => 0), oI 160 (fun _ => 0), oI 15 (fun _ => 0), oI 90 (fun _ => 0), oI 6 (fun _ => 0), oL 8 (ud (ud (ud (ud (ud (ud (ud (ud (fun _ => 0) 0 7348) 1 409067) 2 206220) 3 24716933) 4 1589657) 5 664683) 6 114052) 7 755277), oI 1014 (fun _ => 0), oI 8 (fun _ => 0), oI 8 (fun _ => 0), oI 6 (fun _ => 0), oZ 1000 (fun _ => 0)]) (8, 2237) Q
  refine wp_putv (fs' := [vR 52, vR 53, vI 0, vI 0, vR 54, vI 0, vI 0, vI 0, vR 55, vR 56, vR 57, vR 58, vR 59, vR 60, vR 61, vR 62, vR 63, vI 0, vI 0, vI 0, vI 0, vI 0, vI 0, vN, vN, vN, vN, vN, vN, vI 0]) dX7_init_152 pX7_60 (ci_p (gs_lt hp)) (Nat.le_of_ble_eq_true rfl) (fitF_arr _ _) rfl ?_
  refine wp_re (ci_sp (gs_lt hp)) ?_
  show Wp X kX7_init 155 [some (vR 51), none] [] (h.set 51 (oO 7 [vR 52, vR 53, vI 0, vI 0, vR 54, vI 0, vI 0, vI 0, vR 55, vR 56, vR 57, vR 58, vR 59, vR 60, vR 61, vR 62, vR 63, vI 0, vI 0, vI 0, vI 0, vI 0, vI 0, vN, vN, vN, vN, vN, vN, vI 0]) ++ [oI 1014 (fun _ => 0), oI 31434 (fun _ => 0), oI 160 (fun _ => 0), oI 15 (fun _ => 0), oI 90 (fun _ => 0), oI 6 (fun _ => 0), oL 8 (ud (ud (ud (ud (ud (ud (ud (ud (fun _ => 0) 0 7348) 1 409067) 2 206220) 3 24716933) 4 1589657) 5 664683) 6 114052) 7 755277), oI 1014 (fun _ => 0), oI 8 (fun _ => 0), oI 8 (fun _ => 0), oI 6 (fun _ => 0), oZ 1000 (fun _ => 0)]) (8, 2237) Q
  refine wp_aload_n dX7_init_155 rfl ?_
  refine wp_bipush dX7_init_156 rfl ?_
  refine wp_newz (N := 6) (b0 := (7, 2231)) dX7_init_158 wA_boolean rfl (by decide) (by decide) (by decide) ?_
  refine wp_re (ci_ps) ?_
  refine wp_at (n := 64) (ci_l hn) ?_
  show Wp X kX7_init 160 [some (vR 51), none] [vR 64, vR 51] (h.set 51 (oO 7 [vR 52, vR 53, vI 0, vI 0, vR 54, vI 0, vI 0, vI 0, vR 55, vR 56, vR 57, vR 58, vR 59, vR 60, vR 61, vR 62, vR 63, vI 0, vI 0, vI 0, vI 0, vI 0, vI 0, vN, vN, vN, vN, vN, vN, vI 0]) ++ [oI 1014 (fun _ => 0), oI 31434 (fun _ => 0), oI 160 (fun _ => 0), oI 15 (fun _ => 0), oI 90 (fun _ => 0), oI 6 (fun _ => 0), oL 8 (ud (ud (ud (ud (ud (ud (ud (ud (fun _ => 0) 0 7348) 1 409067) 2 206220) 3 24716933) 4 1589657) 5 664683) 6 114052) 7 755277), oI 1014 (fun _ => 0), oI 8 (fun _ => 0), oI 8 (fun _ => 0), oI 6 (fun _ => 0), oZ 1000 (fun _ => 0), oZ 6 (fun _ => 0)]) (7, 2231) Q
  refine wp_putv (fs' := [vR 52, vR 53, vI 0, vI 0, vR 54, vI 0, vI 0, vI 0, vR 55, vR 56, vR 57, vR 58, vR 59, vR 60, vR 61, vR 62, vR 63, vI 0, vI 0, vI 0, vI 0, vI 0, vI 0, vR 64, vN, vN, vN, vN, vN, vI 0]) dX7_init_160 pX7_64 (ci_p (gs_lt hp)) (Nat.le_of_ble_eq_true rfl) (fitF_arr _ _) rfl ?_
  refine wp_re (ci_sp (gs_lt hp)) ?_
  show Wp X kX7_init 163 [some (vR 51), none] [] (h.set 51 (oO 7 [vR 52, vR 53, vI 0, vI 0, vR 54, vI 0, vI 0, vI 0, vR 55, vR 56, vR 57, vR 58, vR 59, vR 60, vR 61, vR 62, vR 63, vI 0, vI 0, vI 0, vI 0, vI 0, vI 0, vR 64, vN, vN, vN, vN, vN, vI 0]) ++ [oI 1014 (fun _ => 0), oI 31434 (fun _ => 0), oI 160 (fun _ => 0), oI 15 (fun _ => 0), oI 90 (fun _ => 0), oI 6 (fun _ => 0), oL 8 (ud (ud (ud (ud (ud (ud (ud (ud (fun _ => 0) 0 7348) 1 409067) 2 206220) 3 24716933) 4 1589657) 5 664683) 6 114052) 7 755277), oI 1014 (fun _ => 0), oI 8 (fun _ => 0), oI 8 (fun _ => 0), oI 6 (fun _ => 0), oZ 1000 (fun _ => 0), oZ 6 (fun _ => 0)]) (7, 2231) Q
  refine wp_aload_n dX7_init_163 rfl ?_
  refine wp_bipush dX7_init_164 rfl ?_
  refine wp_newz (N := 6) (b0 := (6, 2225)) dX7_init_166 wA_boolean rfl (by decide) (by decide) (by decide) ?_
  refine wp_re (ci_ps) ?_
  refine wp_at (n := 65) (ci_l hn) ?_
  show Wp X kX7_init 168 [some (vR 51), none] [vR 65, vR 51] (h.set 51 (oO 7 [vR 52, vR 53, vI 0, vI 0, vR 54, vI 0, vI 0, vI 0, vR 55, vR 56, vR 57, vR 58, vR 59, vR 60, vR 61, vR 62, vR 63, vI 0, vI 0, vI 0, vI 0, vI 0, vI 0, vR 64, vN, vN, vN, vN, vN, vI 0]) ++ [oI 1014 (fun _ => 0), oI 31434 (fun _ => 0), oI 160 (fun _ => 0), oI 15 (fun _ => 0), oI 90 (fun _ => 0), oI 6 (fun _ => 0), oL 8 (ud (ud (ud (ud (ud (ud (ud (ud (fun _ => 0) 0 7348) 1 409067) 2 206220) 3 24716933) 4 1589657) 5 664683) 6 114052) 7 755277), oI 1014 (fun _ => 0), oI 8 (fun _ => 0), oI 8 (fun _ => 0), oI 6 (fun _ => 0), oZ 1000 (fun _ => 0), oZ 6 (fun _ => 0), oZ 6 (fun _ => 0)]) (6, 2225) Q
  refine wp_putv (fs' := [vR 52, vR 53, vI 0, vI 0, vR 54, vI 0, vI 0, vI 0, vR 55, vR 56, vR 57, vR 58, vR 59, vR 60, vR 61, vR 62, vR 63, vI 0, vI 0, vI 0, vI 0, vI 0, vI 0, vR 64, vR 65, vN, vN, vN, vN, vI 0]) dX7_init_168 pX7_67 (ci_p (gs_lt hp)) (Nat.le_of_ble_eq_true rfl) (fitF_arr _ _) rfl ?_
  refine wp_re (ci_sp (gs_lt hp)) ?_
  show Wp X kX7_init 171 [some (vR 51), none] [] (h.set 51 (oO 7 [vR 52, vR 53, vI 0, vI 0, vR 54, vI 0, vI 0, vI 0, vR 55, vR 56, vR 57, vR 58, vR 59, vR 60, vR 61, vR 62, vR 63, vI 0, vI 0, vI 0, vI 0, vI 0, vI 0, vR 64, vR 65, vN, vN, vN, vN, vI 0]) ++ [oI 1014 (fun _ => 0), oI 31434 (fun _ => 0), oI 160 (fun _ => 0), oI 15 (fun _ => 0), oI 90 (fun _ => 0), oI 6 (fun _ => 0), oL 8 (ud (ud (ud (ud (ud (ud (ud (ud (fun _ => 0) 0 7348) 1 409067) 2 206220) 3 24716933) 4 1589657) 5 664683) 6 114052) 7 755277), oI 1014 (fun _ => 0), oI 8 (fun _ => 0), oI 8 (fun _ => 0), oI 6 (fun _ => 0), oZ 1000 (fun _ => 0), oZ 6 (fun _ => 0), oZ 6 (fun _ => 0)]) (6, 2225) Q
  refine wp_aload_n dX7_init_171 rfl ?_
  refine wp_bipush dX7_init_172 rfl ?_
  refine wp_newz (N := 10) (b0 := (5, 2215)) dX7_init_174 wA_boolean rfl (by decide) (by decide) (by decide) ?_
  refine wp_re (ci_ps) ?_
  refine wp_at (n := 66) (ci_l hn) ?_
  show Wp X kX7_init 176 [some (vR 51), none] [vR 66, vR 51] (h.set 51 (oO 7 [vR 52, vR 53, vI 0, vI 0, vR 54, vI 0, vI 0, vI 0, vR 55, vR 56, vR 57, vR 58, vR 59, vR 60, vR 61, vR 62, vR 63, vI 0, vI 0, vI 0, vI 0, vI 0, vI 0, vR 64, vR 65, vN, vN, vN, vN, vI 0]) ++ [oI 1014 (fun _ => 0), oI 31434 (fun _ => 0), oI 160 (fun _ => 0), oI 15 (fun _ => 0), oI 90 (fun _ => 0), oI 6 (fun _ => 0), oL 8 (ud (ud (ud (ud (ud (ud (ud (ud (fun _ => 0) 0 7348) 1 409067) 2 206220) 3 24716933) 4 1589657) 5 664683) 6 114052) 7 755277), oI 1014 (fun _ => 0), oI 8 (fun _ => 0), oI 8 (fun _ => 0), oI 6 (fun _ => 0), oZ 1000 (fun _ => 0), oZ 6 (fun _ => 0), oZ 6 (fun _ => 0), oZ 10 (fun _ => 0)]) (5, 2215) Q
  refine wp_putv (fs' := [vR 52, vR 53, vI 0, vI 0, vR 54, vI 0, vI 0, vI 0, vR 55, vR 56, vR 57, vR 58, vR 59, vR 60, vR 61, vR 62, vR 63, vI 0, vI 0, vI 0, vI 0, vI 0, vI 0, vR 64, vR 65, vR 66, vN, vN, vN, vI 0]) dX7_init_176 pX7_70 (ci_p (gs_lt hp)) (Nat.le_of_ble_eq_true rfl) (fitF_arr _ _) rfl ?_
  refine wp_re (ci_sp (gs_lt hp)) ?_
  show Wp X kX7_init 179 [some (vR 51), none] [] (h.set 51 (oO 7 [vR 52, vR 53, vI 0, vI 0, vR 54, vI 0, vI 0, vI 0, vR 55, vR 56, vR 57, vR 58, vR 59, vR 60, vR 61, vR 62, vR 63, vI 0, vI 0, vI 0, vI 0, vI 0, vI 0, vR 64, vR 65, vR 66, vN, vN, vN, vI 0]) ++ [oI 1014 (fun _ => 0), oI 31434 (fun _ => 0), oI 160 (fun _ => 0), oI 15 (fun _ => 0), oI 90 (fun _ => 0), oI 6 (fun _ => 0), oL 8 (ud (ud (ud (ud (ud (ud (ud (ud (fun _ => 0) 0 7348) 1 409067) 2 206220) 3 24716933) 4 1589657) 5 664683) 6 114052) 7 755277), oI 1014 (fun _ => 0), oI 8 (fun _ => 0), oI 8 (fun _ => 0), oI 6 (fun _ => 0), oZ 1000 (fun _ => 0), oZ 6 (fun _ => 0), oZ 6 (fun _ => 0), oZ 10 (fun _ => 0)]) (5, 2215) Q
  refine wp_aload_n dX7_init_179 rfl ?_
  refine wp_sipush dX7_init_180 rfl ?_
  refine wp_newl (N := 160) (b0 := (4, 2055)) dX7_init_183 wA_long rfl (by decide) (by decide) (by decide) ?_
  refine wp_re (ci_ps) ?_
  refine wp_at (n := 67) (ci_l hn) ?_
  show Wp X kX7_init 185 [some (vR 51), none] [vR 67, vR 51] (h.set 51 (oO 7 [vR 52, vR 53, vI 0, vI 0, vR 54, vI 0, vI 0, vI 0, vR 55, vR 56, vR 57, vR 58, vR 59, vR 60, vR 61, vR 62, vR 63, vI 0, vI 0, vI 0, vI 0, vI 0, vI 0, vR 64, vR 65, vR 66, vN, vN, vN, vI 0]) ++ [oI 1014 (fun _ => 0), oI 31434 (fun _ => 0), oI 160 (fun _ => 0), oI 15 (fun _ => 0), oI 90 (fun _ => 0), oI 6 (fun _ => 0), oL 8 (ud (ud (ud (ud (ud (ud (ud (ud (fun _ => 0) 0 7348) 1 409067) 2 206220) 3 24716933) 4 1589657) 5 664683) 6 114052) 7 755277), oI 1014 (fun _ => 0), oI 8 (fun _ => 0), oI 8 (fun _ => 0), oI 6 (fun _ => 0), oZ 1000 (fun _ => 0), oZ 6 (fun _ => 0), oZ 6 (fun _ => 0), oZ 10 (fun _ => 0), oL 160 (fun _ => 0)]) (4, 2055) Q
  refine wp_putv (fs' := [vR 52, vR 53, vI 0, vI 0, vR 54, vI 0, vI 0, vI 0, vR 55, vR 56, vR 57, vR 58, vR 59, vR 60, vR 61, vR 62, vR 63, vI 0, vI 0, vI 0, vI 0, vI 0, vI 0, vR 64, vR 65, vR 66, vR 67, vN, vN, vI 0]) dX7_init_185 pX7_73 (ci_p (gs_lt hp)) (Nat.le_of_ble_eq_true rfl) (fitF_arr _ _) rfl ?_
  refine wp_re (ci_sp (gs_lt hp)) ?_
  show Wp X kX7_init 188 [some (vR 51), none] [] (h.set 51 (oO 7 [vR 52, vR 53, vI 0, vI 0, vR 54, vI 0, vI 0, vI 0, vR 55, vR 56, vR 57, vR 58, vR 59, vR 60, vR 61, vR 62, vR 63, vI 0, vI 0, vI 0, vI 0, vI 0, vI 0, vR 64, vR 65, vR 66, vR 67, vN, vN, vI 0]) ++ [oI 1014 (fun _ => 0), oI 31434 (fun _ => 0), oI 160 (fun _ => 0), oI 15 (fun _ => 0), oI 90 (fun _ => 0), oI 6 (fun _ => 0), oL 8 (ud (ud (ud (ud (ud (ud (ud (ud (fun _ => 0) 0 7348) 1 409067) 2 206220) 3 24716933) 4 1589657) 5 664683) 6 114052) 7 755277), oI 1014 (fun _ => 0), oI 8 (fun _ => 0), oI 8 (fun _ => 0), oI 6 (fun _ => 0), oZ 1000 (fun _ => 0), oZ 6 (fun _ => 0), oZ 6 (fun _ => 0), oZ 10 (fun _ => 0), oL 160 (fun _ => 0)]) (4, 2055) Q
  refine wp_aload_n dX7_init_188 rfl ?_
  refine wp_iconst dX7_init_189 ?_
  refine wp_newi (N := 4) (b0 := (3, 2051)) dX7_init_190 wA_int rfl (by decide) (by decide) (by decide) ?_
  refine wp_re (ci_ps) ?_
  refine wp_at (n := 68) (ci_l hn) ?_
  show Wp X kX7_init 192 [some (vR 51), none] [vR 68, vR 51] (h.set 51 (oO 7 [vR 52, vR 53, vI 0, vI 0, vR 54, vI 0, vI 0, vI 0, vR 55, vR 56, vR 57, vR 58, vR 59, vR 60, vR 61, vR 62, vR 63, vI 0, vI 0, vI 0, vI 0, vI 0, vI 0, vR 64, vR 65, vR 66, vR 67, vN, vN, vI 0]) ++ [oI 1014 (fun _ => 0), oI 31434 (fun _ => 0), oI 160 (fun _ => 0), oI 15 (fun _ => 0), oI 90 (fun _ => 0), oI 6 (fun _ => 0), oL 8 (ud (ud (ud (ud (ud (ud (ud (ud (fun _ => 0) 0 7348) 1 409067) 2 206220) 3 24716933) 4 1589657) 5 664683) 6 114052) 7 755277), oI 1014 (fun _ => 0), oI 8 (fun _ => 0), oI 8 (fun _ => 0), oI 6 (fun _ => 0), oZ 1000 (fun _ => 0), oZ 6 (fun _ => 0), oZ 6 (fun _ => 0), oZ 10 (fun _ => 0), oL 160 (fun _ => 0), oI 4 (fun _ => 0)]) (3, 2051) Q
  refine wp_dup dX7_init_192 rfl ?_
  refine wp_iconst dX7_init_193 ?_
  refine wp_iconst dX7_init_194 ?_
  refine wp_isv dX7_init_195 (ci_k (i := 16) hn rfl) (by decide) (by decide) ?_
  refine wp_re (ci_sk (i := 16) hn) ?_
  show Wp X kX7_init 196 [some (vR 51), none] [vR 68, vR 51] (h.set 51 (oO 7 [vR 52, vR 53, vI 0, vI 0, vR 54, vI 0, vI 0, vI 0, vR 55, vR 56, vR 57, vR 58, vR 59, vR 60, vR 61, vR 62, vR 63, vI 0, vI 0, vI 0, vI 0, vI 0, vI 0, vR 64, vR 65, vR 66, vR 67, vN, vN, vI 0]) ++ [oI 1014 (fun _ => 0), oI 31434 (fun _ => 0), oI 160 (fun _ => 0), oI 15 (fun _ => 0), oI 90 (fun _ => 0), oI 6 (fun _ => 0), oL 8 (ud (ud (ud (ud (ud (ud (ud (ud (fun _ => 0) 0 7348) 1 409067) 2 206220) 3 24716933) 4 1589657) 5 664683) 6 114052) 7 755277), oI 1014 (fun _ => 0), oI 8 (fun _ => 0), oI 8 (fun _ => 0), oI 6 (fun _ => 0), oZ 1000 (fun _ => 0), oZ 6 (fun _ => 0), oZ 6 (fun _ => 0), oZ 10 (fun _ => 0), oL 160 (fun _ => 0), oI 4 (ud (fun _ => 0) 0 (-1))]) (3, 2051) Q
  refine wp_dup dX7_init_196 rfl ?_
  refine wp_iconst dX7_init_197 ?_
  refine wp_iconst dX7_init_198 ?_
  refine wp_isv dX7_init_199 (ci_k (i := 16) hn rfl) (by decide) (by decide) ?_
  refine wp_re (ci_sk (i := 16) hn) ?_
  show Wp X kX7_init 200 [some (vR 51), none] [vR 68, vR 51] (h.set 51 (oO 7 [vR 52, vR 53, vI 0, vI 0, vR 54, vI 0, vI 0, vI 0, vR 55, vR 56, vR 57, vR 58, vR 59, vR 60, vR 61, vR 62, vR 63, vI 0, vI 0, vI 0, vI 0, vI 0, vI 0, vR 64, vR 65, vR 66, vR 67, vN, vN, vI 0]) ++ [oI 1014 (fun _ => 0), oI 31434 (fun _ => 0), oI 160 (fun _ => 0), oI 15 (fun _ => 0), oI 90 (fun _ => 0), oI 6 (fun _ => 0), oL 8 (ud (ud (ud (ud (ud (ud (ud (ud (fun _ => 0) 0 7348) 1 409067) 2 206220) 3 24716933) 4 1589657) 5 664683) 6 114052) 7 755277), oI 1014 (fun _ => 0), oI 8 (fun _ => 0), oI 8 (fun _ => 0), oI 6 (fun _ => 0), oZ 1000 (fun _ => 0), oZ 6 (fun _ => 0), oZ 6 (fun _ => 0), oZ 10 (fun _ => 0), oL 160 (fun _ => 0), oI 4 (ud (ud (fun _ => 0) 0 (-1)) 1 (-1))]) (3, 2051) Q
  refine wp_dup dX7_init_200 rfl ?_
  refine wp_iconst dX7_init_201 ?_
  refine wp_iconst dX7_init_202 ?_
  refine wp_isv dX7_init_203 (ci_k (i := 16) hn rfl) (by decide) (by decide) ?_
  refine wp_re (ci_sk (i := 16) hn) ?_
  show Wp X kX7_init 204 [some (vR 51), none] [vR 68, vR 51] (h.set 51 (oO 7 [vR 52, vR 53, vI 0, vI 0, vR 54, vI 0, vI 0, vI 0, vR 55, vR 56, vR 57, vR 58, vR 59, vR 60, vR 61, vR 62, vR 63, vI 0, vI 0, vI 0, vI 0, vI 0, vI 0, vR 64, vR 65, vR 66, vR 67, vN, vN, vI 0]) ++ [oI 1014 (fun _ => 0), oI 31434 (fun _ => 0), oI 160 (fun _ => 0), oI 15 (fun _ => 0), oI 90 (fun _ => 0), oI 6 (fun _ => 0), oL 8 (ud (ud (ud (ud (ud (ud (ud (ud (fun _ => 0) 0 7348) 1 409067) 2 206220) 3 24716933) 4 1589657) 5 664683) 6 114052) 7 755277), oI 1014 (fun _ => 0), oI 8 (fun _ => 0), oI 8 (fun _ => 0), oI 6 (fun _ => 0), oZ 1000 (fun _ => 0), oZ 6 (fun _ => 0), oZ 6 (fun _ => 0), oZ 10 (fun _ => 0), oL 160 (fun _ => 0), oI 4 (ud (ud (ud (fun _ => 0) 0 (-1)) 1 (-1)) 2 (-1))]) (3, 2051) Q
  refine wp_dup dX7_init_204 rfl ?_
  refine wp_iconst dX7_init_205 ?_
  refine wp_iconst dX7_init_206 ?_
  refine wp_isv dX7_init_207 (ci_k (i := 16) hn rfl) (by decide) (by decide) ?_
  refine wp_re (ci_sk (i := 16) hn) ?_
  show Wp X kX7_init 208 [some (vR 51), none] [vR 68, vR 51] (h.set 51 (oO 7 [vR 52, vR 53, vI 0, vI 0, vR 54, vI 0, vI 0, vI 0, vR 55, vR 56, vR 57, vR 58, vR 59, vR 60, vR 61, vR 62, vR 63, vI 0, vI 0, vI 0, vI 0, vI 0, vI 0, vR 64, vR 65, vR 66, vR 67, vN, vN, vI 0]) ++ [oI 1014 (fun _ => 0), oI 31434 (fun _ => 0), oI 160 (fun _ => 0), oI 15 (fun _ => 0), oI 90 (fun _ => 0), oI 6 (fun _ => 0), oL 8 (ud (ud (ud (ud (ud (ud (ud (ud (fun _ => 0) 0 7348) 1 409067) 2 206220) 3 24716933) 4 1589657) 5 664683) 6 114052) 7 755277), oI 1014 (fun _ => 0), oI 8 (fun _ => 0), oI 8 (fun _ => 0), oI 6 (fun _ => 0), oZ 1000 (fun _ => 0), oZ 6 (fun _ => 0), oZ 6 (fun _ => 0), oZ 10 (fun _ => 0), oL 160 (fun _ => 0), oI 4 (ud (ud (ud (ud (fun _ => 0) 0 (-1)) 1 (-1)) 2 (-1)) 3 (-1))]) (3, 2051) Q
  refine wp_putv (fs' := [vR 52, vR 53, vI 0, vI 0, vR 54, vI 0, vI 0, vI 0, vR 55, vR 56, vR 57, vR 58, vR 59, vR 60, vR 61, vR 62, vR 63, vI 0, vI 0, vI 0, vI 0, vI 0, vI 0, vR 64, vR 65, vR 66, vR 67, vR 68, vN, vI 0]) dX7_init_208 pX7_76 (ci_p (gs_lt hp)) (Nat.le_of_ble_eq_true rfl) (fitF_arr _ _) rfl ?_
  refine wp_re (ci_sp (gs_lt hp)) ?_
  show Wp X kX7_init 211 [some (vR 51), none] [] (h.set 51 (oO 7 [vR 52, vR 53, vI 0, vI 0, vR 54, vI 0, vI 0, vI 0, vR 55, vR 56, vR 57, vR 58, vR 59, vR 60, vR 61, vR 62, vR 63, vI 0, vI 0, vI 0, vI 0, vI 0, vI 0, vR 64, vR 65, vR 66, vR 67, vR 68, vN, vI 0]) ++ [oI 1014 (fun _ => 0), oI 31434 (fun _ => 0), oI 160 (fun _ => 0), oI 15 (fun _ => 0), oI 90 (fun _ => 0), oI 6 (fun _ => 0), oL 8 (ud (ud (ud (ud (ud (ud (ud (ud (fun _ => 0) 0 7348) 1 409067) 2 206220) 3 24716933) 4 1589657) 5 664683) 6 114052) 7 755277), oI 1014 (fun _ => 0), oI 8 (fun _ => 0), oI 8 (fun _ => 0), oI 6 (fun _ => 0), oZ 1000 (fun _ => 0), oZ 6 (fun _ => 0), oZ 6 (fun _ => 0), oZ 10 (fun _ => 0), oL 160 (fun _ => 0), oI 4 (ud (ud (ud (ud (fun _ => 0) 0 (-1)) 1 (-1)) 2 (-1)) 3 (-1))]) (3, 2051) Q
  refine wp_aload_n dX7_init_211 rfl ?_
  refine wp_sipush dX7_init_212 rfl ?_
  refine wp_newi (N := 1014) (b0 := (2, 1037)) dX7_init_215 wA_int rfl (by decide) (by decide) (by decide) ?_
  refine wp_re (ci_ps) ?_
  refine wp_at (n := 69) (ci_l hn) ?_
  show Wp X kX7_init 217 [some (vR 51), none] [vR 69, vR 51] (h.set 51 (oO 7 [vR 52, vR 53, vI 0, vI 0, vR 54, vI 0, vI 0, vI 0, vR 55, vR 56, vR 57, vR 58, vR 59, vR 60, vR 61, vR 62, vR 63, vI 0, vI 0, vI 0, vI 0, vI 0, vI 0, vR 64, vR 65, vR 66, vR 67, vR 68, vN, vI 0]) ++ [oI 1014 (fun _ => 0), oI 31434 (fun _ => 0), oI 160 (fun _ => 0), oI 15 (fun _ => 0), oI 90 (fun _ => 0), oI 6 (fun _ => 0), oL 8 (ud (ud (ud (ud (ud (ud (ud (ud (fun _ => 0) 0 7348) 1 409067) 2 206220) 3 24716933) 4 1589657) 5 664683) 6 114052) 7 755277), oI 1014 (fun _ => 0), oI 8 (fun _ => 0), oI 8 (fun _ => 0), oI 6 (fun _ => 0), oZ 1000 (fun _ => 0), oZ 6 (fun _ => 0), oZ 6 (fun _ => 0), oZ 10 (fun _ => 0), oL 160 (fun _ => 0), oI 4 (ud (ud (ud (ud (fun _ => 0) 0 (-1)) 1 (-1)) 2 (-1)) 3 (-1)), oI 1014 (fun _ => 0)]) (2, 1037) Q
  refine wp_putv (fs' := [vR 52, vR 53, vI 0, vI 0, vR 54, vI 0, vI 0, vI 0, vR 55, vR 56, vR 57, vR 58, vR 59, vR 60, vR 61, vR 62, vR 63, vI 0, vI 0, vI 0, vI 0, vI 0, vI 0, vR 64, vR 65, vR 66, vR 67, vR 68, vR 69, vI 0]) dX7_init_217 pX7_79 (ci_p (gs_lt hp)) (Nat.le_of_ble_eq_true rfl) (fitF_arr _ _) rfl ?_
  refine wp_re (ci_sp (gs_lt hp)) ?_
  show Wp X kX7_init 220 [some (vR 51), none] [] (h.set 51 (oO 7 [vR 52, vR 53, vI 0, vI 0, vR 54, vI 0, vI 0, vI 0, vR 55, vR 56, vR 57, vR 58, vR 59, vR 60, vR 61, vR 62, vR 63, vI 0, vI 0, vI 0, vI 0, vI 0, vI 0, vR 64, vR 65, vR 66, vR 67, vR 68, vR 69, vI 0]) ++ [oI 1014 (fun _ => 0), oI 31434 (fun _ => 0), oI 160 (fun _ => 0), oI 15 (fun _ => 0), oI 90 (fun _ => 0), oI 6 (fun _ => 0), oL 8 (ud (ud (ud (ud (ud (ud (ud (ud (fun _ => 0) 0 7348) 1 409067) 2 206220) 3 24716933) 4 1589657) 5 664683) 6 114052) 7 755277), oI 1014 (fun _ => 0), oI 8 (fun _ => 0), oI 8 (fun _ => 0), oI 6 (fun _ => 0), oZ 1000 (fun _ => 0), oZ 6 (fun _ => 0), oZ 6 (fun _ => 0), oZ 10 (fun _ => 0), oL 160 (fun _ => 0), oI 4 (ud (ud (ud (ud (fun _ => 0) 0 (-1)) 1 (-1)) 2 (-1)) 3 (-1)), oI 1014 (fun _ => 0)]) (2, 1037) Q
  refine wp_aload_n dX7_init_220 rfl ?_
  refine wp_getf dX7_init_221 fX7_9 (ci_p (gs_lt hp)) rfl ?_
  refine wp_iconst dX7_init_224 ?_
  refine wp_iconst dX7_init_225 ?_
  refine wp_isv dX7_init_226 (ci_k (i := 0) hn rfl) (by decide) (by decide) ?_
  refine wp_re (ci_sk (i := 0) hn) ?_
  show Wp X kX7_init 227 [some (vR 51), none] [] (h.set 51 (oO 7 [vR 52, vR 53, vI 0, vI 0, vR 54, vI 0, vI 0, vI 0, vR 55, vR 56, vR 57, vR 58, vR 59, vR 60, vR 61, vR 62, vR 63, vI 0, vI 0, vI 0, vI 0, vI 0, vI 0, vR 64, vR 65, vR 66, vR 67, vR 68, vR 69, vI 0]) ++ [oI 1014 (ud (fun _ => 0) 3 4), oI 31434 (fun _ => 0), oI 160 (fun _ => 0), oI 15 (fun _ => 0), oI 90 (fun _ => 0), oI 6 (fun _ => 0), oL 8 (ud (ud (ud (ud (ud (ud (ud (ud (fun _ => 0) 0 7348) 1 409067) 2 206220) 3 24716933) 4 1589657) 5 664683) 6 114052) 7 755277), oI 1014 (fun _ => 0), oI 8 (fun _ => 0), oI 8 (fun _ => 0), oI 6 (fun _ => 0), oZ 1000 (fun _ => 0), oZ 6 (fun _ => 0), oZ 6 (fun _ => 0), oZ 10 (fun _ => 0), oL 160 (fun _ => 0), oI 4 (ud (ud (ud (ud (fun _ => 0) 0 (-1)) 1 (-1)) 2 (-1)) 3 (-1)), oI 1014 (fun _ => 0)]) (2, 1037) Q
  refine wp_aload_n dX7_init_227 rfl ?_
  refine wp_getf dX7_init_228 fX7_9 (ci_p (gs_lt hp)) rfl ?_
  refine wp_iconst dX7_init_231 ?_
  refine wp_bipush dX7_init_232 rfl ?_
  refine wp_isv dX7_init_234 (ci_k (i := 0) hn rfl) (by decide) (by decide) ?_
  refine wp_re (ci_sk (i := 0) hn) ?_
  show Wp X kX7_init 235 [some (vR 51), none] [] (h.set 51 (oO 7 [vR 52, vR 53, vI 0, vI 0, vR 54, vI 0, vI 0, vI 0, vR 55, vR 56, vR 57, vR 58, vR 59, vR 60, vR 61, vR 62, vR 63, vI 0, vI 0, vI 0, vI 0, vI 0, vI 0, vR 64, vR 65, vR 66, vR 67, vR 68, vR 69, vI 0]) ++ [oI 1014 (ud (ud (fun _ => 0) 3 4) 4 50), oI 31434 (fun _ => 0), oI 160 (fun _ => 0), oI 15 (fun _ => 0), oI 90 (fun _ => 0), oI 6 (fun _ => 0), oL 8 (ud (ud (ud (ud (ud (ud (ud (ud (fun _ => 0) 0 7348) 1 409067) 2 206220) 3 24716933) 4 1589657) 5 664683) 6 114052) 7 755277), oI 1014 (fun _ => 0), oI 8 (fun _ => 0), oI 8 (fun _ => 0), oI 6 (fun _ => 0), oZ 1000 (fun _ => 0), oZ 6 (fun _ => 0), oZ 6 (fun _ => 0), oZ 10 (fun _ => 0), oL 160 (fun _ => 0), oI 4 (ud (ud (ud (ud (fun _ => 0) 0 (-1)) 1 (-1)) 2 (-1)) 3 (-1)), oI 1014 (fun _ => 0)]) (2, 1037) Q
  refine wp_aload_n dX7_init_235 rfl ?_
  refine wp_getf dX7_init_236 fX7_9 (ci_p (gs_lt hp)) rfl ?_
  refine wp_iconst dX7_init_239 ?_
  refine wp_iconst dX7_init_240 ?_
  refine wp_isv dX7_init_241 (ci_k (i := 0) hn rfl) (by decide) (by decide) ?_
  refine wp_re (ci_sk (i := 0) hn) ?_
  show Wp X kX7_init 242 [some (vR 51), none] [] (h.set 51 (oO 7 [vR 52, vR 53, vI 0, vI 0, vR 54, vI 0, vI 0, vI 0, vR 55, vR 56, vR 57, vR 58, vR 59, vR 60, vR 61, vR 62, vR 63, vI 0, vI 0, vI 0, vI 0, vI 0, vI 0, vR 64, vR 65, vR 66, vR 67, vR 68, vR 69, vI 0]) ++ [oI 1014 (ud (ud (ud (fun _ => 0) 3 4) 4 50) 5 5), oI 31434 (fun _ => 0), oI 160 (fun _ => 0), oI 15 (fun _ => 0), oI 90 (fun _ => 0), oI 6 (fun _ => 0), oL 8 (ud (ud (ud (ud (ud (ud (ud (ud (fun _ => 0) 0 7348) 1 409067) 2 206220) 3 24716933) 4 1589657) 5 664683) 6 114052) 7 755277), oI 1014 (fun _ => 0), oI 8 (fun _ => 0), oI 8 (fun _ => 0), oI 6 (fun _ => 0), oZ 1000 (fun _ => 0), oZ 6 (fun _ => 0), oZ 6 (fun _ => 0), oZ 10 (fun _ => 0), oL 160 (fun _ => 0), oI 4 (ud (ud (ud (ud (fun _ => 0) 0 (-1)) 1 (-1)) 2 (-1)) 3 (-1)), oI 1014 (fun _ => 0)]) (2, 1037) Q
  refine wp_aload_n dX7_init_242 rfl ?_
  refine wp_getf dX7_init_243 fX7_9 (ci_p (gs_lt hp)) rfl ?_
  refine wp_bipush dX7_init_246 rfl ?_
  refine wp_bipush dX7_init_248 rfl ?_
  refine wp_isv dX7_init_250 (ci_k (i := 0) hn rfl) (by decide) (by decide) ?_
  refine wp_re (ci_sk (i := 0) hn) ?_
  show Wp X kX7_init 251 [some (vR 51), none] [] (h.set 51 (oO 7 [vR 52, vR 53, vI 0, vI 0, vR 54, vI 0, vI 0, vI 0, vR 55, vR 56, vR 57, vR 58, vR 59, vR 60, vR 61, vR 62, vR 63, vI 0, vI 0, vI 0, vI 0, vI 0, vI 0, vR 64, vR 65, vR 66, vR 67, vR 68, vR 69, vI 0]) ++ [oI 1014 (ud (ud (ud (ud (fun _ => 0) 3 4) 4 50) 5 5) 6 6), oI 31434 (fun _ => 0), oI 160 (fun _ => 0), oI 15 (fun _ => 0), oI 90 (fun _ => 0), oI 6 (fun _ => 0), oL 8 (ud (ud (ud (ud (ud (ud (ud (ud (fun _ => 0) 0 7348) 1 409067) 2 206220) 3 24716933) 4 1589657) 5 664683) 6 114052) 7 755277), oI 1014 (fun _ => 0), oI 8 (fun _ => 0), oI 8 (fun _ => 0), oI 6 (fun _ => 0), oZ 1000 (fun _ => 0), oZ 6 (fun _ => 0), oZ 6 (fun _ => 0), oZ 10 (fun _ => 0), oL 160 (fun _ => 0), oI 4 (ud (ud (ud (ud (fun _ => 0) 0 (-1)) 1 (-1)) 2 (-1)) 3 (-1)), oI 1014 (fun _ => 0)]) (2, 1037) Q
  refine wp_aload_n dX7_init_251 rfl ?_
  refine wp_getf dX7_init_252 fX7_9 (ci_p (gs_lt hp)) rfl ?_
  refine wp_bipush dX7_init_255 rfl ?_
  refine wp_iconst dX7_init_257 ?_
  refine wp_isv dX7_init_258 (ci_k (i := 0) hn rfl) (by decide) (by decide) ?_
  refine wp_re (ci_sk (i := 0) hn) ?_
  show Wp X kX7_init 259 [some (vR 51), none] [] (h.set 51 (oO 7 [vR 52, vR 53, vI 0, vI 0, vR 54, vI 0, vI 0, vI 0, vR 55, vR 56, vR 57, vR 58, vR 59, vR 60, vR 61, vR 62, vR 63, vI 0, vI 0, vI 0, vI 0, vI 0, vI 0, vR 64, vR 65, vR 66, vR 67, vR 68, vR 69, vI 0]) ++ [oI 1014 (ud (ud (ud (ud (ud (fun _ => 0) 3 4) 4 50) 5 5) 6 6) 7 2), oI 31434 (fun _ => 0), oI 160 (fun _ => 0), oI 15 (fun _ => 0), oI 90 (fun _ => 0), oI 6 (fun _ => 0), oL 8 (ud (ud (ud (ud (ud (ud (ud (ud (fun _ => 0) 0 7348) 1 409067) 2 206220) 3 24716933) 4 1589657) 5 664683) 6 114052) 7 755277), oI 1014 (fun _ => 0), oI 8 (fun _ => 0), oI 8 (fun _ => 0), oI 6 (fun _ => 0), oZ 1000 (fun _ => 0), oZ 6 (fun _ => 0), oZ 6 (fun _ => 0), oZ 10 (fun _ => 0), oL 160 (fun _ => 0), oI 4 (ud (ud (ud (ud (fun _ => 0) 0 (-1)) 1 (-1)) 2 (-1)) 3 (-1)), oI 1014 (fun _ => 0)]) (2, 1037) Q
  refine wp_aload_n dX7_init_259 rfl ?_
  refine wp_getf dX7_init_260 fX7_9 (ci_p (gs_lt hp)) rfl ?_
  refine wp_bipush dX7_init_263 rfl ?_
  refine wp_iconst dX7_init_265 ?_
  refine wp_isv dX7_init_266 (ci_k (i := 0) hn rfl) (by decide) (by decide) ?_
  refine wp_re (ci_sk (i := 0) hn) ?_
  show Wp X kX7_init 267 [some (vR 51), none] [] (h.set 51 (oO 7 [vR 52, vR 53, vI 0, vI 0, vR 54, vI 0, vI 0, vI 0, vR 55, vR 56, vR 57, vR 58, vR 59, vR 60, vR 61, vR 62, vR 63, vI 0, vI 0, vI 0, vI 0, vI 0, vI 0, vR 64, vR 65, vR 66, vR 67, vR 68, vR 69, vI 0]) ++ [oI 1014 (ud (ud (ud (ud (ud (ud (fun _ => 0) 3 4) 4 50) 5 5) 6 6) 7 2) 9 1), oI 31434 (fun _ => 0), oI 160 (fun _ => 0), oI 15 (fun _ => 0), oI 90 (fun _ => 0), oI 6 (fun _ => 0), oL 8 (ud (ud (ud (ud (ud (ud (ud (ud (fun _ => 0) 0 7348) 1 409067) 2 206220) 3 24716933) 4 1589657) 5 664683) 6 114052) 7 755277), oI 1014 (fun _ => 0), oI 8 (fun _ => 0), oI 8 (fun _ => 0), oI 6 (fun _ => 0), oZ 1000 (fun _ => 0), oZ 6 (fun _ => 0), oZ 6 (fun _ => 0), oZ 10 (fun _ => 0), oL 160 (fun _ => 0), oI 4 (ud (ud (ud (ud (fun _ => 0) 0 (-1)) 1 (-1)) 2 (-1)) 3 (-1)), oI 1014 (fun _ => 0)]) (2, 1037) Q
  refine wp_iconst dX7_init_267 ?_
  refine wp_istore_n (L' := [some (vR 51), some (vI 0)]) dX7_init_268 (by decide) rfl ?_
  refine wp_iload_n dX7_init_269 rfl ?_
  refine wp_bipush dX7_init_270 rfl ?_
  refine wp_icmp_ge 305 dX7_init_272 rfl (by unfold r32; omega) (by unfold r32; omega) (fun q => absurd q (by decide)) (fun _ => ?_)
  refine wp_aload_n dX7_init_275 rfl ?_
  refine wp_getf dX7_init_276 fX7_9 (ci_p (gs_lt hp)) rfl ?_
  refine wp_iload_n dX7_init_279 rfl ?_
  refine wp_is1 dX7_init_280 SX7_hand lX7_82 (rq0 rfl rfl) (Nat.le_of_ble_eq_true rfl) (C_hand ?_)
  show Wp X kX7_init 283 [some (vR 51), some (vI 0)] [vI (hA 0), vR 52] (h.set 51 (oO 7 [vR 52, vR 53, vI 0, vI 0, vR 54, vI 0, vI 0, vI 0, vR 55, vR 56, vR 57, vR 58, vR 59, vR 60, vR 61, vR 62, vR 63, vI 0, vI 0, vI 0, vI 0, vI 0, vI 0, vR 64, vR 65, vR 66, vR 67, vR 68, vR 69, vI 0]) ++ [oI 1014 (ud (ud (ud (ud (ud (ud (fun _ => 0) 3 4) 4 50) 5 5) 6 6) 7 2) 9 1), oI 31434 (fun _ => 0), oI 160 (fun _ => 0), oI 15 (fun _ => 0), oI 90 (fun _ => 0), oI 6 (fun _ => 0), oL 8 (ud (ud (ud (ud (ud (ud (ud (ud (fun _ => 0) 0 7348) 1 409067) 2 206220) 3 24716933) 4 1589657) 5 664683) 6 114052) 7 755277), oI 1014 (fun _ => 0), oI 8 (fun _ => 0), oI 8 (fun _ => 0), oI 6 (fun _ => 0), oZ 1000 (fun _ => 0), oZ 6 (fun _ => 0), oZ 6 (fun _ => 0), oZ 10 (fun _ => 0), oL 160 (fun _ => 0), oI 4 (ud (ud (ud (ud (fun _ => 0) 0 (-1)) 1 (-1)) 2 (-1)) 3 (-1)), oI 1014 (fun _ => 0)]) (2, 1037) Q
  refine wp_iconst dX7_init_283 ?_
  refine wp_iadd dX7_init_284 ?_
  show Wp X kX7_init 285 [some (vR 51), some (vI 0)] [vI ((hA 0) + 0), vR 52] (h.set 51 (oO 7 [vR 52, vR 53, vI 0, vI 0, vR 54, vI 0, vI 0, vI 0, vR 55, vR 56, vR 57, vR 58, vR 59, vR 60, vR 61, vR 62, vR 63, vI 0, vI 0, vI 0, vI 0, vI 0, vI 0, vR 64, vR 65, vR 66, vR 67, vR 68, vR 69, vI 0]) ++ [oI 1014 (ud (ud (ud (ud (ud (ud (fun _ => 0) 3 4) 4 50) 5 5) 6 6) 7 2) 9 1), oI 31434 (fun _ => 0), oI 160 (fun _ => 0), oI 15 (fun _ => 0), oI 90 (fun _ => 0), oI 6 (fun _ => 0), oL 8 (ud (ud (ud (ud (ud (ud (ud (ud (fun _ => 0) 0 7348) 1 409067) 2 206220) 3 24716933) 4 1589657) 5 664683) 6 114052) 7 755277), oI 1014 (fun _ => 0), oI 8 (fun _ => 0), oI 8 (fun _ => 0), oI 6 (fun _ => 0), oZ 1000 (fun _ => 0), oZ 6 (fun _ => 0), oZ 6 (fun _ => 0), oZ 10 (fun _ => 0), oL 160 (fun _ => 0), oI 4 (ud (ud (ud (ud (fun _ => 0) 0 (-1)) 1 (-1)) 2 (-1)) 3 (-1)), oI 1014 (fun _ => 0)]) (2, 1037) Q
  refine wp_iload_n dX7_init_285 rfl ?_
  refine wp_isv dX7_init_286 (ci_k (i := 0) hn rfl) (by decide) (by decide) ?_
  refine wp_re (ci_sk (i := 0) hn) ?_
  show Wp X kX7_init 287 [some (vR 51), some (vI 0)] [] (h.set 51 (oO 7 [vR 52, vR 53, vI 0, vI 0, vR 54, vI 0, vI 0, vI 0, vR 55, vR 56, vR 57, vR 58, vR 59, vR 60, vR 61, vR 62, vR 63, vI 0, vI 0, vI 0, vI 0, vI 0, vI 0, vR 64, vR 65, vR 66, vR 67, vR 68, vR 69, vI 0]) ++ [oI 1014 (ud (ud (ud (ud (ud (ud (ud (fun _ => 0) 3 4) 4 50) 5 5) 6 6) 7 2) 9 1) ((hA 0) + 0) 0), oI 31434 (fun _ => 0), oI 160 (fun _ => 0), oI 15 (fun _ => 0), oI 90 (fun _ => 0), oI 6 (fun _ => 0), oL 8 (ud (ud (ud (ud (ud (ud (ud (ud (fun _ => 0) 0 7348) 1 409067) 2 206220) 3 24716933) 4 1589657) 5 664683) 6 114052) 7 755277), oI 1014 (fun _ => 0), oI 8 (fun _ => 0), oI 8 (fun _ => 0), oI 6 (fun _ => 0), oZ 1000 (fun _ => 0), oZ 6 (fun _ => 0), oZ 6 (fun _ => 0), oZ 10 (fun _ => 0), oL 160 (fun _ => 0), oI 4 (ud (ud (ud (ud (fun _ => 0) 0 (-1)) 1 (-1)) 2 (-1)) 3 (-1)), oI 1014 (fun _ => 0)]) (2, 1037) Q
  refine wp_aload_n dX7_init_287 rfl ?_
  refine wp_getf dX7_init_288 fX7_9 (ci_p (gs_lt hp)) rfl ?_
  refine wp_iload_n dX7_init_291 rfl ?_
  refine wp_is1 dX7_init_292 SX7_hand lX7_82 (rq0 rfl rfl) (Nat.le_of_ble_eq_true rfl) (C_hand ?_)
  show Wp X kX7_init 295 [some (vR 51), some (vI 0)] [vI (hA 0), vR 52] (h.set 51 (oO 7 [vR 52, vR 53, vI 0, vI 0, vR 54, vI 0, vI 0, vI 0, vR 55, vR 56, vR 57, vR 58, vR 59, vR 60, vR 61, vR 62, vR 63, vI 0, vI 0, vI 0, vI 0, vI 0, vI 0, vR 64, vR 65, vR 66, vR 67, vR 68, vR 69, vI 0]) ++ [oI 1014 (ud (ud (ud (ud (ud (ud (ud (fun _ => 0) 3 4) 4 50) 5 5) 6 6) 7 2) 9 1) ((hA 0) + 0) 0), oI 31434 (fun _ => 0), oI 160 (fun _ => 0), oI 15 (fun _ => 0), oI 90 (fun _ => 0), oI 6 (fun _ => 0), oL 8 (ud (ud (ud (ud (ud (ud (ud (ud (fun _ => 0) 0 7348) 1 409067) 2 206220) 3 24716933) 4 1589657) 5 664683) 6 114052) 7 755277), oI 1014 (fun _ => 0), oI 8 (fun _ => 0), oI 8 (fun _ => 0), oI 6 (fun _ => 0), oZ 1000 (fun _ => 0), oZ 6 (fun _ => 0), oZ 6 (fun _ => 0), oZ 10 (fun _ => 0), oL 160 (fun _ => 0), oI 4 (ud (ud (ud (ud (fun _ => 0) 0 (-1)) 1 (-1)) 2 (-1)) 3 (-1)), oI 1014 (fun _ => 0)]) (2, 1037) Q
  refine wp_iconst dX7_init_295 ?_
  refine wp_iadd dX7_init_296 ?_
  show Wp X kX7_init 297 [some (vR 51), some (vI 0)] [vI ((hA 0) + 1), vR 52] (h.set 51 (oO 7 [vR 52, vR 53, vI 0, vI 0, vR 54, vI 0, vI 0, vI 0, vR 55, vR 56, vR 57, vR 58, vR 59, vR 60, vR 61, vR 62, vR 63, vI 0, vI 0, vI 0, vI 0, vI 0, vI 0, vR 64, vR 65, vR 66, vR 67, vR 68, vR 69, vI 0]) ++ [oI 1014 (ud (ud (ud (ud (ud (ud (ud (fun _ => 0) 3 4) 4 50) 5 5) 6 6) 7 2) 9 1) ((hA 0) + 0) 0), oI 31434 (fun _ => 0), oI 160 (fun _ => 0), oI 15 (fun _ => 0), oI 90 (fun _ => 0), oI 6 (fun _ => 0), oL 8 (ud (ud (ud (ud (ud (ud (ud (ud (fun _ => 0) 0 7348) 1 409067) 2 206220) 3 24716933) 4 1589657) 5 664683) 6 114052) 7 755277), oI 1014 (fun _ => 0), oI 8 (fun _ => 0), oI 8 (fun _ => 0), oI 6 (fun _ => 0), oZ 1000 (fun _ => 0), oZ 6 (fun _ => 0), oZ 6 (fun _ => 0), oZ 10 (fun _ => 0), oL 160 (fun _ => 0), oI 4 (ud (ud (ud (ud (fun _ => 0) 0 (-1)) 1 (-1)) 2 (-1)) 3 (-1)), oI 1014 (fun _ => 0)]) (2, 1037) Q
  refine wp_iconst dX7_init_297 ?_
  refine wp_isv dX7_init_298 (ci_k (i := 0) hn rfl) (by decide) (by decide) ?_
  refine wp_re (ci_sk (i := 0) hn) ?_
  show Wp X kX7_init 299 [some (vR 51), some (vI 0)] [] (h.set 51 (oO 7 [vR 52, vR 53, vI 0, vI 0, vR 54, vI 0, vI 0, vI 0, vR 55, vR 56, vR 57, vR 58, vR 59, vR 60, vR 61, vR 62, vR 63, vI 0, vI 0, vI 0, vI 0, vI 0, vI 0, vR 64, vR 65, vR 66, vR 67, vR 68, vR 69, vI 0]) ++ [oI 1014 (ud (ud (ud (ud (ud (ud (ud (ud (fun _ => 0) 3 4) 4 50) 5 5) 6 6) 7 2) 9 1) ((hA 0) + 0) 0) ((hA 0) + 1) (-1)), oI 31434 (fun _ => 0), oI 160 (fun _ => 0), oI 15 (fun _ => 0), oI 90 (fun _ => 0), oI 6 (fun _ => 0), oL 8 (ud (ud (ud (ud (ud (ud (ud (ud (fun _ => 0) 0 7348) 1 409067) 2 206220) 3 24716933) 4 1589657) 5 664683) 6 114052) 7 755277), oI 1014 (fun _ => 0), oI 8 (fun _ => 0), oI 8 (fun _ => 0), oI 6 (fun _ => 0), oZ 1000 (fun _ => 0), oZ 6 (fun _ => 0), oZ 6 (fun _ => 0), oZ 10 (fun _ => 0), oL 160 (fun _ => 0), oI 4 (ud (ud (ud (ud (fun _ => 0) 0 (-1)) 1 (-1)) 2 (-1)) 3 (-1)), oI 1014 (fun _ => 0)]) (2, 1037) Q
  refine wp_iinc (L' := [some (vR 51), some (vI 1)]) dX7_init_299 rfl rfl ?_
  refine wp_goto 269 dX7_init_302 rfl ?_
  refine wp_iload_n dX7_init_269 rfl ?_
  refine wp_bipush dX7_init_270 rfl ?_
  refine wp_icmp_ge 305 dX7_init_272 rfl (by unfold r32; omega) (by unfold r32; omega) (fun q => absurd q (by decide)) (fun _ => ?_)
  refine wp_aload_n dX7_init_275 rfl ?_
  refine wp_getf dX7_init_276 fX7_9 (ci_p (gs_lt hp)) rfl ?_
  refine wp_iload_n dX7_init_279 rfl ?_
  refine wp_is1 dX7_init_280 SX7_hand lX7_82 (rq0 rfl rfl) (Nat.le_of_ble_eq_true rfl) (C_hand ?_)
  show Wp X kX7_init 283 [some (vR 51), some (vI 1)] [vI (hA 1), vR 52] (h.set 51 (oO 7 [vR 52, vR 53, vI 0, vI 0, vR 54, vI 0, vI 0, vI 0, vR 55, vR 56, vR 57, vR 58, vR 59, vR 60, vR 61, vR 62, vR 63, vI 0, vI 0, vI 0, vI 0, vI 0, vI 0, vR 64, vR 65, vR 66, vR 67, vR 68, vR 69, vI 0]) ++ [oI 1014 (ud (ud (ud (ud (ud (ud (ud (ud (fun _ => 0) 3 4) 4 50) 5 5) 6 6) 7 2) 9 1) ((hA 0) + 0) 0) ((hA 0) + 1) (-1)), oI 31434 (fun _ => 0), oI 160 (fun _ => 0), oI 15 (fun _ => 0), oI 90 (fun _ => 0), oI 6 (fun _ => 0), oL 8 (ud (ud (ud (ud (ud (ud (ud (ud (fun _ => 0) 0 7348) 1 409067) 2 206220) 3 24716933) 4 1589657) 5 664683) 6 114052) 7 755277), oI 1014 (fun _ => 0), oI 8 (fun _ => 0), oI 8 (fun _ => 0), oI 6 (fun _ => 0), oZ 1000 (fun _ => 0), oZ 6 (fun _ => 0), oZ 6 (fun _ => 0), oZ 10 (fun _ => 0), oL 160 (fun _ => 0), oI 4 (ud (ud (ud (ud (fun _ => 0) 0 (-1)) 1 (-1)) 2 (-1)) 3 (-1)), oI 1014 (fun _ => 0)]) (2, 1037) Q
  refine wp_iconst dX7_init_283 ?_
  refine wp_iadd dX7_init_284 ?_
  show Wp X kX7_init 285 [some (vR 51), some (vI 1)] [vI ((hA 1) + 0), vR 52] (h.set 51 (oO 7 [vR 52, vR 53, vI 0, vI 0, vR 54, vI 0, vI 0, vI 0, vR 55, vR 56, vR 57, vR 58, vR 59, vR 60, vR 61, vR 62, vR 63, vI 0, vI 0, vI 0, vI 0, vI 0, vI 0, vR 64, vR 65, vR 66, vR 67, vR 68, vR 69, vI 0]) ++ [oI 1014 (ud (ud (ud (ud (ud (ud (ud (ud (fun _ => 0) 3 4) 4 50) 5 5) 6 6) 7 2) 9 1) ((hA 0) + 0) 0) ((hA 0) + 1) (-1)), oI 31434 (fun _ => 0), oI 160 (fun _ => 0), oI 15 (fun _ => 0), oI 90 (fun _ => 0), oI 6 (fun _ => 0), oL 8 (ud (ud (ud (ud (ud (ud (ud (ud (fun _ => 0) 0 7348) 1 409067) 2 206220) 3 24716933) 4 1589657) 5 664683) 6 114052) 7 755277), oI 1014 (fun _ => 0), oI 8 (fun _ => 0), oI 8 (fun _ => 0), oI 6 (fun _ => 0), oZ 1000 (fun _ => 0), oZ 6 (fun _ => 0), oZ 6 (fun _ => 0), oZ 10 (fun _ => 0), oL 160 (fun _ => 0), oI 4 (ud (ud (ud (ud (fun _ => 0) 0 (-1)) 1 (-1)) 2 (-1)) 3 (-1)), oI 1014 (fun _ => 0)]) (2, 1037) Q
  refine wp_iload_n dX7_init_285 rfl ?_
  refine wp_isv dX7_init_286 (ci_k (i := 0) hn rfl) (by decide) (by decide) ?_
  refine wp_re (ci_sk (i := 0) hn) ?_
  show Wp X kX7_init 287 [some (vR 51), some (vI 1)] [] (h.set 51 (oO 7 [vR 52, vR 53, vI 0, vI 0, vR 54, vI 0, vI 0, vI 0, vR 55, vR 56, vR 57, vR 58, vR 59, vR 60, vR 61, vR 62, vR 63, vI 0, vI 0, vI 0, vI 0, vI 0, vI 0, vR 64, vR 65, vR 66, vR 67, vR 68, vR 69, vI 0]) ++ [oI 1014 (ud (ud (ud (ud (ud (ud (ud (ud (ud (fun _ => 0) 3 4) 4 50) 5 5) 6 6) 7 2) 9 1) ((hA 0) + 0) 0) ((hA 0) + 1) (-1)) ((hA 1) + 0) 1), oI 31434 (fun _ => 0), oI 160 (fun _ => 0), oI 15 (fun _ => 0), oI 90 (fun _ => 0), oI 6 (fun _ => 0), oL 8 (ud (ud (ud (ud (ud (ud (ud (ud (fun _ => 0) 0 7348) 1 409067) 2 206220) 3 24716933) 4 1589657) 5 664683) 6 114052) 7 755277), oI 1014 (fun _ => 0), oI 8 (fun _ => 0), oI 8 (fun _ => 0), oI 6 (fun _ => 0), oZ 1000 (fun _ => 0), oZ 6 (fun _ => 0), oZ 6 (fun _ => 0), oZ 10 (fun _ => 0), oL 160 (fun _ => 0), oI 4 (ud (ud (ud (ud (fun _ => 0) 0 (-1)) 1 (-1)) 2 (-1)) 3 (-1)), oI 1014 (fun _ => 0)]) (2, 1037) Q
  refine wp_aload_n dX7_init_287 rfl ?_
  refine wp_getf dX7_init_288 fX7_9 (ci_p (gs_lt hp)) rfl ?_
  refine wp_iload_n dX7_init_291 rfl ?_
  refine wp_is1 dX7_init_292 SX7_hand lX7_82 (rq0 rfl rfl) (Nat.le_of_ble_eq_true rfl) (C_hand ?_)
  show Wp X kX7_init 295 [some (vR 51), some (vI 1)] [vI (hA 1), vR 52] (h.set 51 (oO 7 [vR 52, vR 53, vI 0, vI 0, vR 54, vI 0, vI 0, vI 0, vR 55, vR 56, vR 57, vR 58, vR 59, vR 60, vR 61, vR 62, vR 63, vI 0, vI 0, vI 0, vI 0, vI 0, vI 0, vR 64, vR 65, vR 66, vR 67, vR 68, vR 69, vI 0]) ++ [oI 1014 (ud (ud (ud (ud (ud (ud (ud (ud (ud (fun _ => 0) 3 4) 4 50) 5 5) 6 6) 7 2) 9 1) ((hA 0) + 0) 0) ((hA 0) + 1) (-1)) ((hA 1) + 0) 1), oI 31434 (fun _ => 0), oI 160 (fun _ => 0), oI 15 (fun _ => 0), oI 90 (fun _ => 0), oI 6 (fun _ => 0), oL 8 (ud (ud (ud (ud (ud (ud (ud (ud (fun _ => 0) 0 7348) 1 409067) 2 206220) 3 24716933) 4 1589657) 5 664683) 6 114052) 7 755277), oI 1014 (fun _ => 0), oI 8 (fun _ => 0), oI 8 (fun _ => 0), oI 6 (fun _ => 0), oZ 1000 (fun _ => 0), oZ 6 (fun _ => 0), oZ 6 (fun _ => 0), oZ 10 (fun _ => 0), oL 160 (fun _ => 0), oI 4 (ud (ud (ud (ud (fun _ => 0) 0 (-1)) 1 (-1)) 2 (-1)) 3 (-1)), oI 1014 (fun _ => 0)]) (2, 1037) Q
  refine wp_iconst dX7_init_295 ?_
  refine wp_iadd dX7_init_296 ?_
  show Wp X kX7_init 297 [some (vR 51), some (vI 1)] [vI ((hA 1) + 1), vR 52] (h.set 51 (oO 7 [vR 52, vR 53, vI 0, vI 0, vR 54, vI 0, vI 0, vI 0, vR 55, vR 56, vR 57, vR 58, vR 59, vR 60, vR 61, vR 62, vR 63, vI 0, vI 0, vI 0, vI 0, vI 0, vI 0, vR 64, vR 65, vR 66, vR 67, vR 68, vR 69, vI 0]) ++ [oI 1014 (ud (ud (ud (ud (ud (ud (ud (ud (ud (fun _ => 0) 3 4) 4 50) 5 5) 6 6) 7 2) 9 1) ((hA 0) + 0) 0) ((hA 0) + 1) (-1)) ((hA 1) + 0) 1), oI 31434 (fun _ => 0), oI 160 (fun _ => 0), oI 15 (fun _ => 0), oI 90 (fun _ => 0), oI 6 (fun _ => 0), oL 8 (ud (ud (ud (ud (ud (ud (ud (ud (fun _ => 0) 0 7348) 1 409067) 2 206220) 3 24716933) 4 1589657) 5 664683) 6 114052) 7 755277), oI 1014 (fun _ => 0), oI 8 (fun _ => 0), oI 8 (fun _ => 0), oI 6 (fun _ => 0), oZ 1000 (fun _ => 0), oZ 6 (fun _ => 0), oZ 6 (fun _ => 0), oZ 10 (fun _ => 0), oL 160 (fun _ => 0), oI 4 (ud (ud (ud (ud (fun _ => 0) 0 (-1)) 1 (-1)) 2 (-1)) 3 (-1)), oI 1014 (fun _ => 0)]) (2, 1037) Q
  refine wp_iconst dX7_init_297 ?_
  refine wp_isv dX7_init_298 (ci_k (i := 0) hn rfl) (by decide) (by decide) ?_
  refine wp_re (ci_sk (i := 0) hn) ?_
  show Wp X kX7_init 299 [some (vR 51), some (vI 1)] [] (h.set 51 (oO 7 [vR 52, vR 53, vI 0, vI 0, vR 54, vI 0, vI 0, vI 0, vR 55, vR 56, vR 57, vR 58, vR 59, vR 60, vR 61, vR 62, vR 63, vI 0, vI 0, vI 0, vI 0, vI 0, vI 0, vR 64, vR 65, vR 66, vR 67, vR 68, vR 69, vI 0]) ++ [oI 1014 (ud (ud (ud (ud (ud (ud (ud (ud (ud (ud (fun _ => 0) 3 4) 4 50) 5 5) 6 6) 7 2) 9 1) ((hA 0) + 0) 0) ((hA 0) + 1) (-1)) ((hA 1) + 0) 1) ((hA 1) + 1) (-1)), oI 31434 (fun _ => 0), oI 160 (fun _ => 0), oI 15 (fun _ => 0), oI 90 (fun _ => 0), oI 6 (fun _ => 0), oL 8 (ud (ud (ud (ud (ud (ud (ud (ud (fun _ => 0) 0 7348) 1 409067) 2 206220) 3 24716933) 4 1589657) 5 664683) 6 114052) 7 755277), oI 1014 (fun _ => 0), oI 8 (fun _ => 0), oI 8 (fun _ => 0), oI 6 (fun _ => 0), oZ 1000 (fun _ => 0), oZ 6 (fun _ => 0), oZ 6 (fun _ => 0), oZ 10 (fun _ => 0), oL 160 (fun _ => 0), oI 4 (ud (ud (ud (ud (fun _ => 0) 0 (-1)) 1 (-1)) 2 (-1)) 3 (-1)), oI 1014 (fun _ => 0)]) (2, 1037) Q
  refine wp_iinc (L' := [some (vR 51), some (vI 2)]) dX7_init_299 rfl rfl ?_
  refine wp_goto 269 dX7_init_302 rfl ?_
  refine wp_iload_n dX7_init_269 rfl ?_
  refine wp_bipush dX7_init_270 rfl ?_
  refine wp_icmp_ge 305 dX7_init_272 rfl (by unfold r32; omega) (by unfold r32; omega) (fun q => absurd q (by decide)) (fun _ => ?_)
  refine wp_aload_n dX7_init_275 rfl ?_
  refine wp_getf dX7_init_276 fX7_9 (ci_p (gs_lt hp)) rfl ?_
  refine wp_iload_n dX7_init_279 rfl ?_
  refine wp_is1 dX7_init_280 SX7_hand lX7_82 (rq0 rfl rfl) (Nat.le_of_ble_eq_true rfl) (C_hand ?_)
  show Wp X kX7_init 283 [some (vR 51), some (vI 2)] [vI (hA 2), vR 52] (h.set 51 (oO 7 [vR 52, vR 53, vI 0, vI 0, vR 54, vI 0, vI 0, vI 0, vR 55, vR 56, vR 57, vR 58, vR 59, vR 60, vR 61, vR 62, vR 63, vI 0, vI 0, vI 0, vI 0, vI 0, vI 0, vR 64, vR 65, vR 66, vR 67, vR 68, vR 69, vI 0]) ++ [oI 1014 (ud (ud (ud (ud (ud (ud (ud (ud (ud (ud (fun _ => 0) 3 4) 4 50) 5 5) 6 6) 7 2) 9 1) ((hA 0) + 0) 0) ((hA 0) + 1) (-1)) ((hA 1) + 0) 1) ((hA 1) + 1) (-1)), oI 31434 (fun _ => 0), oI 160 (fun _ => 0), oI 15 (fun _ => 0), oI 90 (fun _ => 0), oI 6 (fun _ => 0), oL 8 (ud (ud (ud (ud (ud (ud (ud (ud (fun _ => 0) 0 7348) 1 409067) 2 206220) 3 24716933) 4 1589657) 5 664683) 6 114052) 7 755277), oI 1014 (fun _ => 0), oI 8 (fun _ => 0), oI 8 (fun _ => 0), oI 6 (fun _ => 0), oZ 1000 (fun _ => 0), oZ 6 (fun _ => 0), oZ 6 (fun _ => 0), oZ 10 (fun _ => 0), oL 160 (fun _ => 0), oI 4 (ud (ud (ud (ud (fun _ => 0) 0 (-1)) 1 (-1)) 2 (-1)) 3 (-1)), oI 1014 (fun _ => 0)]) (2, 1037) Q
  refine wp_iconst dX7_init_283 ?_
  refine wp_iadd dX7_init_284 ?_
  show Wp X kX7_init 285 [some (vR 51), some (vI 2)] [vI ((hA 2) + 0), vR 52] (h.set 51 (oO 7 [vR 52, vR 53, vI 0, vI 0, vR 54, vI 0, vI 0, vI 0, vR 55, vR 56, vR 57, vR 58, vR 59, vR 60, vR 61, vR 62, vR 63, vI 0, vI 0, vI 0, vI 0, vI 0, vI 0, vR 64, vR 65, vR 66, vR 67, vR 68, vR 69, vI 0]) ++ [oI 1014 (ud (ud (ud (ud (ud (ud (ud (ud (ud (ud (fun _ => 0) 3 4) 4 50) 5 5) 6 6) 7 2) 9 1) ((hA 0) + 0) 0) ((hA 0) + 1) (-1)) ((hA 1) + 0) 1) ((hA 1) + 1) (-1)), oI 31434 (fun _ => 0), oI 160 (fun _ => 0), oI 15 (fun _ => 0), oI 90 (fun _ => 0), oI 6 (fun _ => 0), oL 8 (ud (ud (ud (ud (ud (ud (ud (ud (fun _ => 0) 0 7348) 1 409067) 2 206220) 3 24716933) 4 1589657) 5 664683) 6 114052) 7 755277), oI 1014 (fun _ => 0), oI 8 (fun _ => 0), oI 8 (fun _ => 0), oI 6 (fun _ => 0), oZ 1000 (fun _ => 0), oZ 6 (fun _ => 0), oZ 6 (fun _ => 0), oZ 10 (fun _ => 0), oL 160 (fun _ => 0), oI 4 (ud (ud (ud (ud (fun _ => 0) 0 (-1)) 1 (-1)) 2 (-1)) 3 (-1)), oI 1014 (fun _ => 0)]) (2, 1037) Q
  refine wp_iload_n dX7_init_285 rfl ?_
  refine wp_isv dX7_init_286 (ci_k (i := 0) hn rfl) (by decide) (by decide) ?_
  refine wp_re (ci_sk (i := 0) hn) ?_
  show Wp X kX7_init 287 [some (vR 51), some (vI 2)] [] (h.set 51 (oO 7 [vR 52, vR 53, vI 0, vI 0, vR 54, vI 0, vI 0, vI 0, vR 55, vR 56, vR 57, vR 58, vR 59, vR 60, vR 61, vR 62, vR 63, vI 0, vI 0, vI 0, vI 0, vI 0, vI 0, vR 64, vR 65, vR 66, vR 67, vR 68, vR 69, vI 0]) ++ [oI 1014 (ud (ud (ud (ud (ud (ud (ud (ud (ud (ud (ud (fun _ => 0) 3 4) 4 50) 5 5) 6 6) 7 2) 9 1) ((hA 0) + 0) 0) ((hA 0) + 1) (-1)) ((hA 1) + 0) 1) ((hA 1) + 1) (-1)) ((hA 2) + 0) 2), oI 31434 (fun _ => 0), oI 160 (fun _ => 0), oI 15 (fun _ => 0), oI 90 (fun _ => 0), oI 6 (fun _ => 0), oL 8 (ud (ud (ud (ud (ud (ud (ud (ud (fun _ => 0) 0 7348) 1 409067) 2 206220) 3 24716933) 4 1589657) 5 664683) 6 114052) 7 755277), oI 1014 (fun _ => 0), oI 8 (fun _ => 0), oI 8 (fun _ => 0), oI 6 (fun _ => 0), oZ 1000 (fun _ => 0), oZ 6 (fun _ => 0), oZ 6 (fun _ => 0), oZ 10 (fun _ => 0), oL 160 (fun _ => 0), oI 4 (ud (ud (ud (ud (fun _ => 0) 0 (-1)) 1 (-1)) 2 (-1)) 3 (-1)), oI 1014 (fun _ => 0)]) (2, 1037) Q
  refine wp_aload_n dX7_init_287 rfl ?_
  refine wp_getf dX7_init_288 fX7_9 (ci_p (gs_lt hp)) rfl ?_
  refine wp_iload_n dX7_init_291 rfl ?_
  refine wp_is1 dX7_init_292 SX7_hand lX7_82 (rq0 rfl rfl) (Nat.le_of_ble_eq_true rfl) (C_hand ?_)
  show Wp X kX7_init 295 [some (vR 51), some (vI 2)] [vI (hA 2), vR 52] (h.set 51 (oO 7 [vR 52, vR 53, vI 0, vI 0, vR 54, vI 0, vI 0, vI 0, vR 55, vR 56, vR 57, vR 58, vR 59, vR 60, vR 61, vR 62, vR 63, vI 0, vI 0, vI 0, vI 0, vI 0, vI 0, vR 64, vR 65, vR 66, vR 67, vR 68, vR 69, vI 0]) ++ [oI 1014 (ud (ud (ud (ud (ud (ud (ud (ud (ud (ud (ud (fun _ => 0) 3 4) 4 50) 5 5) 6 6) 7 2) 9 1) ((hA 0) + 0) 0) ((hA 0) + 1) (-1)) ((hA 1) + 0) 1) ((hA 1) + 1) (-1)) ((hA 2) + 0) 2), oI 31434 (fun _ => 0), oI 160 (fun _ => 0), oI 15 (fun _ => 0), oI 90 (fun _ => 0), oI 6 (fun _ => 0), oL 8 (ud (ud (ud (ud (ud (ud (ud (ud (fun _ => 0) 0 7348) 1 409067) 2 206220) 3 24716933) 4 1589657) 5 664683) 6 114052) 7 755277), oI 1014 (fun _ => 0), oI 8 (fun _ => 0), oI 8 (fun _ => 0), oI 6 (fun _ => 0), oZ 1000 (fun _ => 0), oZ 6 (fun _ => 0), oZ 6 (fun _ => 0), oZ 10 (fun _ => 0), oL 160 (fun _ => 0), oI 4 (ud (ud (ud (ud (fun _ => 0) 0 (-1)) 1 (-1)) 2 (-1)) 3 (-1)), oI 1014 (fun _ => 0)]) (2, 1037) Q
  refine wp_iconst dX7_init_295 ?_
  refine wp_iadd dX7_init_296 ?_
  show Wp X kX7_init 297 [some (vR 51), some (vI 2)] [vI ((hA 2) + 1), vR 52] (h.set 51 (oO 7 [vR 52, vR 53, vI 0, vI 0, vR 54, vI 0, vI 0, vI 0, vR 55, vR 56, vR 57, vR 58, vR 59, vR 60, vR 61, vR 62, vR 63, vI 0, vI 0, vI 0, vI 0, vI 0, vI 0, vR 64, vR 65, vR 66, vR 67, vR 68, vR 69, vI 0]) ++ [oI 1014 (ud (ud (ud (ud (ud (ud (ud (ud (ud (ud (ud (fun _ => 0) 3 4) 4 50) 5 5) 6 6) 7 2) 9 1) ((hA 0) + 0) 0) ((hA 0) + 1) (-1)) ((hA 1) + 0) 1) ((hA 1) + 1) (-1)) ((hA 2) + 0) 2), oI 31434 (fun _ => 0), oI 160 (fun _ => 0), oI 15 (fun _ => 0), oI 90 (fun _ => 0), oI 6 (fun _ => 0), oL 8 (ud (ud (ud (ud (ud (ud (ud (ud (fun _ => 0) 0 7348) 1 409067) 2 206220) 3 24716933) 4 1589657) 5 664683) 6 114052) 7 755277), oI 1014 (fun _ => 0), oI 8 (fun _ => 0), oI 8 (fun _ => 0), oI 6 (fun _ => 0), oZ 1000 (fun _ => 0), oZ 6 (fun _ => 0), oZ 6 (fun _ => 0), oZ 10 (fun _ => 0), oL 160 (fun _ => 0), oI 4 (ud (ud (ud (ud (fun _ => 0) 0 (-1)) 1 (-1)) 2 (-1)) 3 (-1)), oI 1014 (fun _ => 0)]) (2, 1037) Q
  refine wp_iconst dX7_init_297 ?_
  refine wp_isv dX7_init_298 (ci_k (i := 0) hn rfl) (by decide) (by decide) ?_
  refine wp_re (ci_sk (i := 0) hn) ?_
  show Wp X kX7_init 299 [some (vR 51), some (vI 2)] [] (h.set 51 (oO 7 [vR 52, vR 53, vI 0, vI 0, vR 54, vI 0, vI 0, vI 0, vR 55, vR 56, vR 57, vR 58, vR 59, vR 60, vR 61, vR 62, vR 63, vI 0, vI 0, vI 0, vI 0, vI 0, vI 0, vR 64, vR 65, vR 66, vR 67, vR 68, vR 69, vI 0]) ++ [oI 1014 (ud (ud (ud (ud (ud (ud (ud (ud (ud (ud (ud (ud (fun _ => 0) 3 4) 4 50) 5 5) 6 6) 7 2) 9 1) ((hA 0) + 0) 0) ((hA 0) + 1) (-1)) ((hA 1) + 0) 1) ((hA 1) + 1) (-1)) ((hA 2) + 0) 2) ((hA 2) + 1) (-1)), oI 31434 (fun _ => 0), oI 160 (fun _ => 0), oI 15 (fun _ => 0), oI 90 (fun _ => 0), oI 6 (fun _ => 0), oL 8 (ud (ud (ud (ud (ud (ud (ud (ud (fun _ => 0) 0 7348) 1 409067) 2 206220) 3 24716933) 4 1589657) 5 664683) 6 114052) 7 755277), oI 1014 (fun _ => 0), oI 8 (fun _ => 0), oI 8 (fun _ => 0), oI 6 (fun _ => 0), oZ 1000 (fun _ => 0), oZ 6 (fun _ => 0), oZ 6 (fun _ => 0), oZ 10 (fun _ => 0), oL 160 (fun _ => 0), oI 4 (ud (ud (ud (ud (fun _ => 0) 0 (-1)) 1 (-1)) 2 (-1)) 3 (-1)), oI 1014 (fun _ => 0)]) (2, 1037) Q
  refine wp_iinc (L' := [some (vR 51), some (vI 3)]) dX7_init_299 rfl rfl ?_
  refine wp_goto 269 dX7_init_302 rfl ?_
  refine wp_iload_n dX7_init_269 rfl ?_
  refine wp_bipush dX7_init_270 rfl ?_
  refine wp_icmp_ge 305 dX7_init_272 rfl (by unfold r32; omega) (by unfold r32; omega) (fun q => absurd q (by decide)) (fun _ => ?_)
  refine wp_aload_n dX7_init_275 rfl ?_
  refine wp_getf dX7_init_276 fX7_9 (ci_p (gs_lt hp)) rfl ?_
  refine wp_iload_n dX7_init_279 rfl ?_
  refine wp_is1 dX7_init_280 SX7_hand lX7_82 (rq0 rfl rfl) (Nat.le_of_ble_eq_true rfl) (C_hand ?_)
  show Wp X kX7_init 283 [some (vR 51), some (vI 3)] [vI (hA 3), vR 52] (h.set 51 (oO 7 [vR 52, vR 53, vI 0, vI 0, vR 54, vI 0, vI 0, vI 0, vR 55, vR 56, vR 57, vR 58, vR 59, vR 60, vR 61, vR 62, vR 63, vI 0, vI 0, vI 0, vI 0, vI 0, vI 0, vR 64, vR 65, vR 66, vR 67, vR 68, vR 69, vI 0]) ++ [oI 1014 (ud (ud (ud (ud (ud (ud (ud (ud (ud (ud (ud (ud (fun _ => 0) 3 4) 4 50) 5 5) 6 6) 7 2) 9 1) ((hA 0) + 0) 0) ((hA 0) + 1) (-1)) ((hA 1) + 0) 1) ((hA 1) + 1) (-1)) ((hA 2) + 0) 2) ((hA 2) + 1) (-1)), oI 31434 (fun _ => 0), oI 160 (fun _ => 0), oI 15 (fun _ => 0), oI 90 (fun _ => 0), oI 6 (fun _ => 0), oL 8 (ud (ud (ud (ud (ud (ud (ud (ud (fun _ => 0) 0 7348) 1 409067) 2 206220) 3 24716933) 4 1589657) 5 664683) 6 114052) 7 755277), oI 1014 (fun _ => 0), oI 8 (fun _ => 0), oI 8 (fun _ => 0), oI 6 (fun _ => 0), oZ 1000 (fun _ => 0), oZ 6 (fun _ => 0), oZ 6 (fun _ => 0), oZ 10 (fun _ => 0), oL 160 (fun _ => 0), oI 4 (ud (ud (ud (ud (fun _ => 0) 0 (-1)) 1 (-1)) 2 (-1)) 3 (-1)), oI 1014 (fun _ => 0)]) (2, 1037) Q
  refine wp_iconst dX7_init_283 ?_
  refine wp_iadd dX7_init_284 ?_
  show Wp X kX7_init 285 [some (vR 51), some (vI 3)] [vI ((hA 3) + 0), vR 52] (h.set 51 (oO 7 [vR 52, vR 53, vI 0, vI 0, vR 54, vI 0, vI 0, vI 0, vR 55, vR 56, vR 57, vR 58, vR 59, vR 60, vR 61, vR 62, vR 63, vI 0, vI 0, vI 0, vI 0, vI 0, vI 0, vR 64, vR 65, vR 66, vR 67, vR 68, vR 69, vI 0]) ++ [oI 1014 (ud (ud (ud (ud (ud (ud (ud (ud (ud (ud (ud (ud (fun _ => 0) 3 4) 4 50) 5 5) 6 6) 7 2) 9 1) ((hA 0) + 0) 0) ((hA 0) + 1) (-1)) ((hA 1) + 0) 1) ((hA 1) + 1) (-1)) ((hA 2) + 0) 2) ((hA 2) + 1) (-1)), oI 31434 (fun _ => 0), oI 160 (fun _ => 0), oI 15 (fun _ => 0), oI 90 (fun _ => 0), oI 6 (fun _ => 0), oL 8 (ud (ud (ud (ud (ud (ud (ud (ud (fun _ => 0) 0 7348) 1 409067) 2 206220) 3 24716933) 4 1589657) 5 664683) 6 114052) 7 755277), oI 1014 (fun _ => 0), oI 8 (fun _ => 0), oI 8 (fun _ => 0), oI 6 (fun _ => 0), oZ 1000 (fun _ => 0), oZ 6 (fun _ => 0), oZ 6 (fun _ => 0), oZ 10 (fun _ => 0), oL 160 (fun _ => 0), oI 4 (ud (ud (ud (ud (fun _ => 0) 0 (-1)) 1 (-1)) 2 (-1)) 3 (-1)), oI 1014 (fun _ => 0)]) (2, 1037) Q
  refine wp_iload_n dX7_init_285 rfl ?_
  refine wp_isv dX7_init_286 (ci_k (i := 0) hn rfl) (by decide) (by decide) ?_
  refine wp_re (ci_sk (i := 0) hn) ?_
  show Wp X kX7_init 287 [some (vR 51), some (vI 3)] [] (h.set 51 (oO 7 [vR 52, vR 53, vI 0, vI 0, vR 54, vI 0, vI 0, vI 0, vR 55, vR 56, vR 57, vR 58, vR 59, vR 60, vR 61, vR 62, vR 63, vI 0, vI 0, vI 0, vI 0, vI 0, vI 0, vR 64, vR 65, vR 66, vR 67, vR 68, vR 69, vI 0]) ++ [oI 1014 (ud (ud (ud (ud (ud (ud (ud (ud (ud (ud (ud (ud (ud (fun _ => 0) 3 4) 4 50) 5 5) 6 6) 7 2) 9 1) ((hA 0) + 0) 0) ((hA 0) + 1) (-1)) ((hA 1) + 0) 1) ((hA 1) + 1) (-1)) ((hA 2) + 0) 2) ((hA 2) + 1) (-1)) ((hA 3) + 0) 3), oI 31434 (fun _ => 0), oI 160 (fun _ => 0), oI 15 (fun _ => 0), oI 90 (fun _ => 0), oI 6 (fun _ => 0), oL 8 (ud (ud (ud (ud (ud (ud (ud (ud (fun _ => 0) 0 7348) 1 409067) 2 206220) 3 24716933) 4 1589657) 5 664683) 6 114052) 7 755277), oI 1014 (fun _ => 0), oI 8 (fun _ => 0), oI 8 (fun _ => 0), oI 6 (fun _ => 0), oZ 1000 (fun _ => 0), oZ 6 (fun _ => 0), oZ 6 (fun _ => 0), oZ 10 (fun _ => 0), oL 160 (fun _ => 0), oI 4 (ud (ud (ud (ud (fun _ => 0) 0 (-1)) 1 (-1)) 2 (-1)) 3 (-1)), oI 1014 (fun _ => 0)]) (2, 1037) Q
  refine wp_aload_n dX7_init_287 rfl ?_
  refine wp_getf dX7_init_288 fX7_9 (ci_p (gs_lt hp)) rfl ?_
  refine wp_iload_n dX7_init_291 rfl ?_
  refine wp_is1 dX7_init_292 SX7_hand lX7_82 (rq0 rfl rfl) (Nat.le_of_ble_eq_true rfl) (C_hand ?_)
  show Wp X kX7_init 295 [some (vR 51), some (vI 3)] [vI (hA 3), vR 52] (h.set 51 (oO 7 [vR 52, vR 53, vI 0, vI 0, vR 54, vI 0, vI 0, vI 0, vR 55, vR 56, vR 57, vR 58, vR 59, vR 60, vR 61, vR 62, vR 63, vI 0, vI 0, vI 0, vI 0, vI 0, vI 0, vR 64, vR 65, vR 66, vR 67, vR 68, vR 69, vI 0]) ++ [oI 1014 (ud (ud (ud (ud (ud (ud (ud (ud (ud (ud (ud (ud (ud (fun _ => 0) 3 4) 4 50) 5 5) 6 6) 7 2) 9 1) ((hA 0) + 0) 0) ((hA 0) + 1) (-1)) ((hA 1) + 0) 1) ((hA 1) + 1) (-1)) ((hA 2) + 0) 2) ((hA 2) + 1) (-1)) ((hA 3) + 0) 3), oI 31434 (fun _ => 0), oI 160 (fun _ => 0), oI 15 (fun _ => 0), oI 90 (fun _ => 0), oI 6 (fun _ => 0), oL 8 (ud (ud (ud (ud (ud (ud (ud (ud (fun _ => 0) 0 7348) 1 409067) 2 206220) 3 24716933) 4 1589657) 5 664683) 6 114052) 7 755277), oI 1014 (fun _ => 0), oI 8 (fun _ => 0), oI 8 (fun _ => 0), oI 6 (fun _ => 0), oZ 1000 (fun _ => 0), oZ 6 (fun _ => 0), oZ 6 (fun _ => 0), oZ 10 (fun _ => 0), oL 160 (fun _ => 0), oI 4 (ud (ud (ud (ud (fun _ => 0) 0 (-1)) 1 (-1)) 2 (-1)) 3 (-1)), oI 1014 (fun _ => 0)]) (2, 1037) Q
  refine wp_iconst dX7_init_295 ?_
  refine wp_iadd dX7_init_296 ?_
  show Wp X kX7_init 297 [some (vR 51), some (vI 3)] [vI ((hA 3) + 1), vR 52] (h.set 51 (oO 7 [vR 52, vR 53, vI 0, vI 0, vR 54, vI 0, vI 0, vI 0, vR 55, vR 56, vR 57, vR 58, vR 59, vR 60, vR 61, vR 62, vR 63, vI 0, vI 0, vI 0, vI 0, vI 0, vI 0, vR 64, vR 65, vR 66, vR 67, vR 68, vR 69, vI 0]) ++ [oI 1014 (ud (ud (ud (ud (ud (ud (ud (ud (ud (ud (ud (ud (ud (fun _ => 0) 3 4) 4 50) 5 5) 6 6) 7 2) 9 1) ((hA 0) + 0) 0) ((hA 0) + 1) (-1)) ((hA 1) + 0) 1) ((hA 1) + 1) (-1)) ((hA 2) + 0) 2) ((hA 2) + 1) (-1)) ((hA 3) + 0) 3), oI 31434 (fun _ => 0), oI 160 (fun _ => 0), oI 15 (fun _ => 0), oI 90 (fun _ => 0), oI 6 (fun _ => 0), oL 8 (ud (ud (ud (ud (ud (ud (ud (ud (fun _ => 0) 0 7348) 1 409067) 2 206220) 3 24716933) 4 1589657) 5 664683) 6 114052) 7 755277), oI 1014 (fun _ => 0), oI 8 (fun _ => 0), oI 8 (fun _ => 0), oI 6 (fun _ => 0), oZ 1000 (fun _ => 0), oZ 6 (fun _ => 0), oZ 6 (fun _ => 0), oZ 10 (fun _ => 0), oL 160 (fun _ => 0), oI 4 (ud (ud (ud (ud (fun _ => 0) 0 (-1)) 1 (-1)) 2 (-1)) 3 (-1)), oI 1014 (fun _ => 0)]) (2, 1037) Q
  refine wp_iconst dX7_init_297 ?_
  refine wp_isv dX7_init_298 (ci_k (i := 0) hn rfl) (by decide) (by decide) ?_
  refine wp_re (ci_sk (i := 0) hn) ?_
  show Wp X kX7_init 299 [some (vR 51), some (vI 3)] [] (h.set 51 (oO 7 [vR 52, vR 53, vI 0, vI 0, vR 54, vI 0, vI 0, vI 0, vR 55, vR 56, vR 57, vR 58, vR 59, vR 60, vR 61, vR 62, vR 63, vI 0, vI 0, vI 0, vI 0, vI 0, vI 0, vR 64, vR 65, vR 66, vR 67, vR 68, vR 69, vI 0]) ++ [oI 1014 (ud (ud (ud (ud (ud (ud (ud (ud (ud (ud (ud (ud (ud (ud (fun _ => 0) 3 4) 4 50) 5 5) 6 6) 7 2) 9 1) ((hA 0) + 0) 0) ((hA 0) + 1) (-1)) ((hA 1) + 0) 1) ((hA 1) + 1) (-1)) ((hA 2) + 0) 2) ((hA 2) + 1) (-1)) ((hA 3) + 0) 3) ((hA 3) + 1) (-1)), oI 31434 (fun _ => 0), oI 160 (fun _ => 0), oI 15 (fun _ => 0), oI 90 (fun _ => 0), oI 6 (fun _ => 0), oL 8 (ud (ud (ud (ud (ud (ud (ud (ud (fun _ => 0) 0 7348) 1 409067) 2 206220) 3 24716933) 4 1589657) 5 664683) 6 114052) 7 755277), oI 1014 (fun _ => 0), oI 8 (fun _ => 0), oI 8 (fun _ => 0), oI 6 (fun _ => 0), oZ 1000 (fun _ => 0), oZ 6 (fun _ => 0), oZ 6 (fun _ => 0), oZ 10 (fun _ => 0), oL 160 (fun _ => 0), oI 4 (ud (ud (ud (ud (fun _ => 0) 0 (-1)) 1 (-1)) 2 (-1)) 3 (-1)), oI 1014 (fun _ => 0)]) (2, 1037) Q
  refine wp_iinc (L' := [some (vR 51), some (vI 4)]) dX7_init_299 rfl rfl ?_
  refine wp_goto 269 dX7_init_302 rfl ?_
  refine wp_iload_n dX7_init_269 rfl ?_
  refine wp_bipush dX7_init_270 rfl ?_
  refine wp_icmp_ge 305 dX7_init_272 rfl (by unfold r32; omega) (by unfold r32; omega) (fun q => absurd q (by decide)) (fun _ => ?_)
  refine wp_aload_n dX7_init_275 rfl ?_
  refine wp_getf dX7_init_276 fX7_9 (ci_p (gs_lt hp)) rfl ?_
  refine wp_iload_n dX7_init_279 rfl ?_
  refine wp_is1 dX7_init_280 SX7_hand lX7_82 (rq0 rfl rfl) (Nat.le_of_ble_eq_true rfl) (C_hand ?_)
  show Wp X kX7_init 283 [some (vR 51), some (vI 4)] [vI (hA 4), vR 52] (h.set 51 (oO 7 [vR 52, vR 53, vI 0, vI 0, vR 54, vI 0, vI 0, vI 0, vR 55, vR 56, vR 57, vR 58, vR 59, vR 60, vR 61, vR 62, vR 63, vI 0, vI 0, vI 0, vI 0, vI 0, vI 0, vR 64, vR 65, vR 66, vR 67, vR 68, vR 69, vI 0]) ++ [oI 1014 (ud (ud (ud (ud (ud (ud (ud (ud (ud (ud (ud (ud (ud (ud (fun _ => 0) 3 4) 4 50) 5 5) 6 6) 7 2) 9 1) ((hA 0) + 0) 0) ((hA 0) + 1) (-1)) ((hA 1) + 0) 1) ((hA 1) + 1) (-1)) ((hA 2) + 0) 2) ((hA 2) + 1) (-1)) ((hA 3) + 0) 3) ((hA 3) + 1) (-1)), oI 31434 (fun _ => 0), oI 160 (fun _ => 0), oI 15 (fun _ => 0), oI 90 (fun _ => 0), oI 6 (fun _ => 0), oL 8 (ud (ud (ud (ud (ud (ud (ud (ud (fun _ => 0) 0 7348) 1 409067) 2 206220) 3 24716933) 4 1589657) 5 664683) 6 114052) 7 755277), oI 1014 (fun _ => 0), oI 8 (fun _ => 0), oI 8 (fun _ => 0), oI 6 (fun _ => 0), oZ 1000 (fun _ => 0), oZ 6 (fun _ => 0), oZ 6 (fun _ => 0), oZ 10 (fun _ => 0), oL 160 (fun _ => 0), oI 4 (ud (ud (ud (ud (fun _ => 0) 0 (-1)) 1 (-1)) 2 (-1)) 3 (-1)), oI 1014 (fun _ => 0)]) (2, 1037) Q
  refine wp_iconst dX7_init_283 ?_
  refine wp_iadd dX7_init_284 ?_
  show Wp X kX7_init 285 [some (vR 51), some (vI 4)] [vI ((hA 4) + 0), vR 52] (h.set 51 (oO 7 [vR 52, vR 53, vI 0, vI 0, vR 54, vI 0, vI 0, vI 0, vR 55, vR 56, vR 57, vR 58, vR 59, vR 60, vR 61, vR 62, vR 63, vI 0, vI 0, vI 0, vI 0, vI 0, vI 0, vR 64, vR 65, vR 66, vR 67, vR 68, vR 69, vI 0]) ++ [oI 1014 (ud (ud (ud (ud (ud (ud (ud (ud (ud (ud (ud (ud (ud (ud (fun _ => 0) 3 4) 4 50) 5 5) 6 6) 7 2) 9 1) ((hA 0) + 0) 0) ((hA 0) + 1) (-1)) ((hA 1) + 0) 1) ((hA 1) + 1) (-1)) ((hA 2) + 0) 2) ((hA 2) + 1) (-1)) ((hA 3) + 0) 3) ((hA 3) + 1) (-1)), oI 31434 (fun _ => 0), oI 160 (fun _ => 0), oI 15 (fun _ => 0), oI 90 (fun _ => 0), oI 6 (fun _ => 0), oL 8 (ud (ud (ud (ud (ud (ud (ud (ud (fun _ => 0) 0 7348) 1 409067) 2 206220) 3 24716933) 4 1589657) 5 664683) 6 114052) 7 755277), oI 1014 (fun _ => 0), oI 8 (fun _ => 0), oI 8 (fun _ => 0), oI 6 (fun _ => 0), oZ 1000 (fun _ => 0), oZ 6 (fun _ => 0), oZ 6 (fun _ => 0), oZ 10 (fun _ => 0), oL 160 (fun _ => 0), oI 4 (ud (ud (ud (ud (fun _ => 0) 0 (-1)) 1 (-1)) 2 (-1)) 3 (-1)), oI 1014 (fun _ => 0)]) (2, 1037) Q
  refine wp_iload_n dX7_init_285 rfl ?_
  refine wp_isv dX7_init_286 (ci_k (i := 0) hn rfl) (by decide) (by decide) ?_
  refine wp_re (ci_sk (i := 0) hn) ?_
  show Wp X kX7_init 287 [some (vR 51), some (vI 4)] [] (h.set 51 (oO 7 [vR 52, vR 53, vI 0, vI 0, vR 54, vI 0, vI 0, vI 0, vR 55, vR 56, vR 57, vR 58, vR 59, vR 60, vR 61, vR 62, vR 63, vI 0, vI 0, vI 0, vI 0, vI 0, vI 0, vR 64, vR 65, vR 66, vR 67, vR 68, vR 69, vI 0]) ++ [oI 1014 (ud (ud (ud (ud (ud (ud (ud (ud (ud (ud (ud (ud (ud (ud (ud (fun _ => 0) 3 4) 4 50) 5 5) 6 6) 7 2) 9 1) ((hA 0) + 0) 0) ((hA 0) + 1) (-1)) ((hA 1) + 0) 1) ((hA 1) + 1) (-1)) ((hA 2) + 0) 2) ((hA 2) + 1) (-1)) ((hA 3) + 0) 3) ((hA 3) + 1) (-1)) ((hA 4) + 0) 4), oI 31434 (fun _ => 0), oI 160 (fun _ => 0), oI 15 (fun _ => 0), oI 90 (fun _ => 0), oI 6 (fun _ => 0), oL 8 (ud (ud (ud (ud (ud (ud (ud (ud (fun _ => 0) 0 7348) 1 409067) 2 206220) 3 24716933) 4 1589657) 5 664683) 6 114052) 7 755277), oI 1014 (fun _ => 0), oI 8 (fun _ => 0), oI 8 (fun _ => 0), oI 6 (fun _ => 0), oZ 1000 (fun _ => 0), oZ 6 (fun _ => 0), oZ 6 (fun _ => 0), oZ 10 (fun _ => 0), oL 160 (fun _ => 0), oI 4 (ud (ud (ud (ud (fun _ => 0) 0 (-1)) 1 (-1)) 2 (-1)) 3 (-1)), oI 1014 (fun _ => 0)]) (2, 1037) Q
  refine wp_aload_n dX7_init_287 rfl ?_
  refine wp_getf dX7_init_288 fX7_9 (ci_p (gs_lt hp)) rfl ?_
  refine wp_iload_n dX7_init_291 rfl ?_
  refine wp_is1 dX7_init_292 SX7_hand lX7_82 (rq0 rfl rfl) (Nat.le_of_ble_eq_true rfl) (C_hand ?_)
  show Wp X kX7_init 295 [some (vR 51), some (vI 4)] [vI (hA 4), vR 52] (h.set 51 (oO 7 [vR 52, vR 53, vI 0, vI 0, vR 54, vI 0, vI 0, vI 0, vR 55, vR 56, vR 57, vR 58, vR 59, vR 60, vR 61, vR 62, vR 63, vI 0, vI 0, vI 0, vI 0, vI 0, vI 0, vR 64, vR 65, vR 66, vR 67, vR 68, vR 69, vI 0]) ++ [oI 1014 (ud (ud (ud (ud (ud (ud (ud (ud (ud (ud (ud (ud (ud (ud (ud (fun _ => 0) 3 4) 4 50) 5 5) 6 6) 7 2) 9 1) ((hA 0) + 0) 0) ((hA 0) + 1) (-1)) ((hA 1) + 0) 1) ((hA 1) + 1) (-1)) ((hA 2) + 0) 2) ((hA 2) + 1) (-1)) ((hA 3) + 0) 3) ((hA 3) + 1) (-1)) ((hA 4) + 0) 4), oI 31434 (fun _ => 0), oI 160 (fun _ => 0), oI 15 (fun _ => 0), oI 90 (fun _ => 0), oI 6 (fun _ => 0), oL 8 (ud (ud (ud (ud (ud (ud (ud (ud (fun _ => 0) 0 7348) 1 409067) 2 206220) 3 24716933) 4 1589657) 5 664683) 6 114052) 7 755277), oI 1014 (fun _ => 0), oI 8 (fun _ => 0), oI 8 (fun _ => 0), oI 6 (fun _ => 0), oZ 1000 (fun _ => 0), oZ 6 (fun _ => 0), oZ 6 (fun _ => 0), oZ 10 (fun _ => 0), oL 160 (fun _ => 0), oI 4 (ud (ud (ud (ud (fun _ => 0) 0 (-1)) 1 (-1)) 2 (-1)) 3 (-1)), oI 1014 (fun _ => 0)]) (2, 1037) Q
  refine wp_iconst dX7_init_295 ?_
  refine wp_iadd dX7_init_296 ?_
  show Wp X kX7_init 297 [some (vR 51), some (vI 4)] [vI ((hA 4) + 1), vR 52] (h.set 51 (oO 7 [vR 52, vR 53, vI 0, vI 0, vR 54, vI 0, vI 0, vI 0, vR 55, vR 56, vR 57, vR 58, vR 59, vR 60, vR 61, vR 62, vR 63, vI 0, vI 0, vI 0, vI 0, vI 0, vI 0, vR 64, vR 65, vR 66, vR 67, vR 68, vR 69, vI 0]) ++ [oI 1014 (ud (ud (ud (ud (ud (ud (ud (ud (ud (ud (ud (ud (ud (ud (ud (fun _ => 0) 3 4) 4 50) 5 5) 6 6) 7 2) 9 1) ((hA 0) + 0) 0) ((hA 0) + 1) (-1)) ((hA 1) + 0) 1) ((hA 1) + 1) (-1)) ((hA 2) + 0) 2) ((hA 2) + 1) (-1)) ((hA 3) + 0) 3) ((hA 3) + 1) (-1)) ((hA 4) + 0) 4), oI 31434 (fun _ => 0), oI 160 (fun _ => 0), oI 15 (fun _ => 0), oI 90 (fun _ => 0), oI 6 (fun _ => 0), oL 8 (ud (ud (ud (ud (ud (ud (ud (ud (fun _ => 0) 0 7348) 1 409067) 2 206220) 3 24716933) 4 1589657) 5 664683) 6 114052) 7 755277), oI 1014 (fun _ => 0), oI 8 (fun _ => 0), oI 8 (fun _ => 0), oI 6 (fun _ => 0), oZ 1000 (fun _ => 0), oZ 6 (fun _ => 0), oZ 6 (fun _ => 0), oZ 10 (fun _ => 0), oL 160 (fun _ => 0), oI 4 (ud (ud (ud (ud (fun _ => 0) 0 (-1)) 1 (-1)) 2 (-1)) 3 (-1)), oI 1014 (fun _ => 0)]) (2, 1037) Q
  refine wp_iconst dX7_init_297 ?_
  refine wp_isv dX7_init_298 (ci_k (i := 0) hn rfl) (by decide) (by decide) ?_
  refine wp_re (ci_sk (i := 0) hn) ?_
  show Wp X kX7_init 299 [some (vR 51), some (vI 4)] [] (h.set 51 (oO 7 [vR 52, vR 53, vI 0, vI 0, vR 54, vI 0, vI 0, vI 0, vR 55, vR 56, vR 57, vR 58, vR 59, vR 60, vR 61, vR 62, vR 63, vI 0, vI 0, vI 0, vI 0, vI 0, vI 0, vR 64, vR 65, vR 66, vR 67, vR 68, vR 69, vI 0]) ++ [oI 1014 (ud (ud (ud (ud (ud (ud (ud (ud (ud (ud (ud (ud (ud (ud (ud (ud (fun _ => 0) 3 4) 4 50) 5 5) 6 6) 7 2) 9 1) ((hA 0) + 0) 0) ((hA 0) + 1) (-1)) ((hA 1) + 0) 1) ((hA 1) + 1) (-1)) ((hA 2) + 0) 2) ((hA 2) + 1) (-1)) ((hA 3) + 0) 3) ((hA 3) + 1) (-1)) ((hA 4) + 0) 4) ((hA 4) + 1) (-1)), oI 31434 (fun _ => 0), oI 160 (fun _ => 0), oI 15 (fun _ => 0), oI 90 (fun _ => 0), oI 6 (fun _ => 0), oL 8 (ud (ud (ud (ud (ud (ud (ud (ud (fun _ => 0) 0 7348) 1 409067) 2 206220) 3 24716933) 4 1589657) 5 664683) 6 114052) 7 755277), oI 1014 (fun _ => 0), oI 8 (fun _ => 0), oI 8 (fun _ => 0), oI 6 (fun _ => 0), oZ 1000 (fun _ => 0), oZ 6 (fun _ => 0), oZ 6 (fun _ => 0), oZ 10 (fun _ => 0), oL 160 (fun _ => 0), oI 4 (ud (ud (ud (ud (fun _ => 0) 0 (-1)) 1 (-1)) 2 (-1)) 3 (-1)), oI 1014 (fun _ => 0)]) (2, 1037) Q
  refine wp_iinc (L' := [some (vR 51), some (vI 5)]) dX7_init_299 rfl rfl ?_
  refine wp_goto 269 dX7_init_302 rfl ?_
  refine wp_iload_n dX7_init_269 rfl ?_
  refine wp_bipush dX7_init_270 rfl ?_
  refine wp_icmp_ge 305 dX7_init_272 rfl (by unfold r32; omega) (by unfold r32; omega) (fun q => absurd q (by decide)) (fun _ => ?_)
  refine wp_aload_n dX7_init_275 rfl ?_
  refine wp_getf dX7_init_276 fX7_9 (ci_p (gs_lt hp)) rfl ?_
  refine wp_iload_n dX7_init_279 rfl ?_
  refine wp_is1 dX7_init_280 SX7_hand lX7_82 (rq0 rfl rfl) (Nat.le_of_ble_eq_true rfl) (C_hand ?_)
  show Wp X kX7_init 283 [some (vR 51), some (vI 5)] [vI (hA 5), vR 52] (h.set 51 (oO 7 [vR 52, vR 53, vI 0, vI 0, vR 54, vI 0, vI 0, vI 0, vR 55, vR 56, vR 57, vR 58, vR 59, vR 60, vR 61, vR 62, vR 63, vI 0, vI 0, vI 0, vI 0, vI 0, vI 0, vR 64, vR 65, vR 66, vR 67, vR 68, vR 69, vI 0]) ++ [oI 1014 (ud (ud (ud (ud (ud (ud (ud (ud (ud (ud (ud (ud (ud (ud (ud (ud (fun _ => 0) 3 4) 4 50) 5 5) 6 6) 7 2) 9 1) ((hA 0) + 0) 0) ((hA 0) + 1) (-1)) ((hA 1) + 0) 1) ((hA 1) + 1) (-1)) ((hA 2) + 0) 2) ((hA 2) + 1) (-1)) ((hA 3) + 0) 3) ((hA 3) + 1) (-1)) ((hA 4) + 0) 4) ((hA 4) + 1) (-1)), oI 31434 (fun _ => 0), oI 160 (fun _ => 0), oI 15 (fun _ => 0), oI 90 (fun _ => 0), oI 6 (fun _ => 0), oL 8 (ud (ud (ud (ud (ud (ud (ud (ud (fun _ => 0) 0 7348) 1 409067) 2 206220) 3 24716933) 4 1589657) 5 664683) 6 114052) 7 755277), oI 1014 (fun _ => 0), oI 8 (fun _ => 0), oI 8 (fun _ => 0), oI 6 (fun _ => 0), oZ 1000 (fun _ => 0), oZ 6 (fun _ => 0), oZ 6 (fun _ => 0), oZ 10 (fun _ => 0), oL 160 (fun _ => 0), oI 4 (ud (ud (ud (ud (fun _ => 0) 0 (-1)) 1 (-1)) 2 (-1)) 3 (-1)), oI 1014 (fun _ => 0)]) (2, 1037) Q
  refine wp_iconst dX7_init_283 ?_
  refine wp_iadd dX7_init_284 ?_
  show Wp X kX7_init 285 [some (vR 51), some (vI 5)] [vI ((hA 5) + 0), vR 52] (h.set 51 (oO 7 [vR 52, vR 53, vI 0, vI 0, vR 54, vI 0, vI 0, vI 0, vR 55, vR 56, vR 57, vR 58, vR 59, vR 60, vR 61, vR 62, vR 63, vI 0, vI 0, vI 0, vI 0, vI 0, vI 0, vR 64, vR 65, vR 66, vR 67, vR 68, vR 69, vI 0]) ++ [oI 1014 (ud (ud (ud (ud (ud (ud (ud (ud (ud (ud (ud (ud (ud (ud (ud (ud (fun _ => 0) 3 4) 4 50) 5 5) 6 6) 7 2) 9 1) ((hA 0) + 0) 0) ((hA 0) + 1) (-1)) ((hA 1) + 0) 1) ((hA 1) + 1) (-1)) ((hA 2) + 0) 2) ((hA 2) + 1) (-1)) ((hA 3) + 0) 3) ((hA 3) + 1) (-1)) ((hA 4) + 0) 4) ((hA 4) + 1) (-1)), oI 31434 (fun _ => 0), oI 160 (fun _ => 0), oI 15 (fun _ => 0), oI 90 (fun _ => 0), oI 6 (fun _ => 0), oL 8 (ud (ud (ud (ud (ud (ud (ud (ud (fun _ => 0) 0 7348) 1 409067) 2 206220) 3 24716933) 4 1589657) 5 664683) 6 114052) 7 755277), oI 1014 (fun _ => 0), oI 8 (fun _ => 0), oI 8 (fun _ => 0), oI 6 (fun _ => 0), oZ 1000 (fun _ => 0), oZ 6 (fun _ => 0), oZ 6 (fun _ => 0), oZ 10 (fun _ => 0), oL 160 (fun _ => 0), oI 4 (ud (ud (ud (ud (fun _ => 0) 0 (-1)) 1 (-1)) 2 (-1)) 3 (-1)), oI 1014 (fun _ => 0)]) (2, 1037) Q
  refine wp_iload_n dX7_init_285 rfl ?_
  refine wp_isv dX7_init_286 (ci_k (i := 0) hn rfl) (by decide) (by decide) ?_
  refine wp_re (ci_sk (i := 0) hn) ?_
  show Wp X kX7_init 287 [some (vR 51), some (vI 5)] [] (h.set 51 (oO 7 [vR 52, vR 53, vI 0, vI 0, vR 54, vI 0, vI 0, vI 0, vR 55, vR 56, vR 57, vR 58, vR 59, vR 60, vR 61, vR 62, vR 63, vI 0, vI 0, vI 0, vI 0, vI 0, vI 0, vR 64, vR 65, vR 66, vR 67, vR 68, vR 69, vI 0]) ++ [oI 1014 (ud (ud (ud (ud (ud (ud (ud (ud (ud (ud (ud (ud (ud (ud (ud (ud (ud (fun _ => 0) 3 4) 4 50) 5 5) 6 6) 7 2) 9 1) ((hA 0) + 0) 0) ((hA 0) + 1) (-1)) ((hA 1) + 0) 1) ((hA 1) + 1) (-1)) ((hA 2) + 0) 2) ((hA 2) + 1) (-1)) ((hA 3) + 0) 3) ((hA 3) + 1) (-1)) ((hA 4) + 0) 4) ((hA 4) + 1) (-1)) ((hA 5) + 0) 5), oI 31434 (fun _ => 0), oI 160 (fun _ => 0), oI 15 (fun _ => 0), oI 90 (fun _ => 0), oI 6 (fun _ => 0), oL 8 (ud (ud (ud (ud (ud (ud (ud (ud (fun _ => 0) 0 7348) 1 409067) 2 206220) 3 24716933) 4 1589657) 5 664683) 6 114052) 7 755277), oI 1014 (fun _ => 0), oI 8 (fun _ => 0), oI 8 (fun _ => 0), oI 6 (fun _ => 0), oZ 1000 (fun _ => 0), oZ 6 (fun _ => 0), oZ 6 (fun _ => 0), oZ 10 (fun _ => 0), oL 160 (fun _ => 0), oI 4 (ud (ud (ud (ud (fun _ => 0) 0 (-1)) 1 (-1)) 2 (-1)) 3 (-1)), oI 1014 (fun _ => 0)]) (2, 1037) Q
  refine wp_aload_n dX7_init_287 rfl ?_
  refine wp_getf dX7_init_288 fX7_9 (ci_p (gs_lt hp)) rfl ?_
  refine wp_iload_n dX7_init_291 rfl ?_
  refine wp_is1 dX7_init_292 SX7_hand lX7_82 (rq0 rfl rfl) (Nat.le_of_ble_eq_true rfl) (C_hand ?_)
  show Wp X kX7_init 295 [some (vR 51), some (vI 5)] [vI (hA 5), vR 52] (h.set 51 (oO 7 [vR 52, vR 53, vI 0, vI 0, vR 54, vI 0, vI 0, vI 0, vR 55, vR 56, vR 57, vR 58, vR 59, vR 60, vR 61, vR 62, vR 63, vI 0, vI 0, vI 0, vI 0, vI 0, vI 0, vR 64, vR 65, vR 66, vR 67, vR 68, vR 69, vI 0]) ++ [oI 1014 (ud (ud (ud (ud (ud (ud (ud (ud (ud (ud (ud (ud (ud (ud (ud (ud (ud (fun _ => 0) 3 4) 4 50) 5 5) 6 6) 7 2) 9 1) ((hA 0) + 0) 0) ((hA 0) + 1) (-1)) ((hA 1) + 0) 1) ((hA 1) + 1) (-1)) ((hA 2) + 0) 2) ((hA 2) + 1) (-1)) ((hA 3) + 0) 3) ((hA 3) + 1) (-1)) ((hA 4) + 0) 4) ((hA 4) + 1) (-1)) ((hA 5) + 0) 5), oI 31434 (fun _ => 0), oI 160 (fun _ => 0), oI 15 (fun _ => 0), oI 90 (fun _ => 0), oI 6 (fun _ => 0), oL 8 (ud (ud (ud (ud (ud (ud (ud (ud (fun _ => 0) 0 7348) 1 409067) 2 206220) 3 24716933) 4 1589657) 5 664683) 6 114052) 7 755277), oI 1014 (fun _ => 0), oI 8 (fun _ => 0), oI 8 (fun _ => 0), oI 6 (fun _ => 0), oZ 1000 (fun _ => 0), oZ 6 (fun _ => 0), oZ 6 (fun _ => 0), oZ 10 (fun _ => 0), oL 160 (fun _ => 0), oI 4 (ud (ud (ud (ud (fun _ => 0) 0 (-1)) 1 (-1)) 2 (-1)) 3 (-1)), oI 1014 (fun _ => 0)]) (2, 1037) Q
  refine wp_iconst dX7_init_295 ?_
  refine wp_iadd dX7_init_296 ?_
  show Wp X kX7_init 297 [some (vR 51), some (vI 5)] [vI ((hA 5) + 1), vR 52] (h.set 51 (oO 7 [vR 52, vR 53, vI 0, vI 0, vR 54, vI 0, vI 0, vI 0, vR 55, vR 56, vR 57, vR 58, vR 59, vR 60, vR 61, vR 62, vR 63, vI 0, vI 0, vI 0, vI 0, vI 0, vI 0, vR 64, vR 65, vR 66, vR 67, vR 68, vR 69, vI 0]) ++ [oI 1014 (ud (ud (ud (ud (ud (ud (ud (ud (ud (ud (ud (ud (ud (ud (ud (ud (ud (fun _ => 0) 3 4) 4 50) 5 5) 6 6) 7 2) 9 1) ((hA 0) + 0) 0) ((hA 0) + 1) (-1)) ((hA 1) + 0) 1) ((hA 1) + 1) (-1)) ((hA 2) + 0) 2) ((hA 2) + 1) (-1)) ((hA 3) + 0) 3) ((hA 3) + 1) (-1)) ((hA 4) + 0) 4) ((hA 4) + 1) (-1)) ((hA 5) + 0) 5), oI 31434 (fun _ => 0), oI 160 (fun _ => 0), oI 15 (fun _ => 0), oI 90 (fun _ => 0), oI 6 (fun _ => 0), oL 8 (ud (ud (ud (ud (ud (ud (ud (ud (fun _ => 0) 0 7348) 1 409067) 2 206220) 3 24716933) 4 1589657) 5 664683) 6 114052) 7 755277), oI 1014 (fun _ => 0), oI 8 (fun _ => 0), oI 8 (fun _ => 0), oI 6 (fun _ => 0), oZ 1000 (fun _ => 0), oZ 6 (fun _ => 0), oZ 6 (fun _ => 0), oZ 10 (fun _ => 0), oL 160 (fun _ => 0), oI 4 (ud (ud (ud (ud (fun _ => 0) 0 (-1)) 1 (-1)) 2 (-1)) 3 (-1)), oI 1014 (fun _ => 0)]) (2, 1037) Q
  refine wp_iconst dX7_init_297 ?_
  refine wp_isv dX7_init_298 (ci_k (i := 0) hn rfl) (by decide) (by decide) ?_
  refine wp_re (ci_sk (i := 0) hn) ?_
  show Wp X kX7_init 299 [some (vR 51), some (vI 5)] [] (h.set 51 (oO 7 [vR 52, vR 53, vI 0, vI 0, vR 54, vI 0, vI 0, vI 0, vR 55, vR 56, vR 57, vR 58, vR 59, vR 60, vR 61, vR 62, vR 63, vI 0, vI 0, vI 0, vI 0, vI 0, vI 0, vR 64, vR 65, vR 66, vR 67, vR 68, vR 69, vI 0]) ++ [oI 1014 (ud (ud (ud (ud (ud (ud (ud (ud (ud (ud (ud (ud (ud (ud (ud (ud (ud (ud (fun _ => 0) 3 4) 4 50) 5 5) 6 6) 7 2) 9 1) ((hA 0) + 0) 0) ((hA 0) + 1) (-1)) ((hA 1) + 0) 1) ((hA 1) + 1) (-1)) ((hA 2) + 0) 2) ((hA 2) + 1) (-1)) ((hA 3) + 0) 3) ((hA 3) + 1) (-1)) ((hA 4) + 0) 4) ((hA 4) + 1) (-1)) ((hA 5) + 0) 5) ((hA 5) + 1) (-1)), oI 31434 (fun _ => 0), oI 160 (fun _ => 0), oI 15 (fun _ => 0), oI 90 (fun _ => 0), oI 6 (fun _ => 0), oL 8 (ud (ud (ud (ud (ud (ud (ud (ud (fun _ => 0) 0 7348) 1 409067) 2 206220) 3 24716933) 4 1589657) 5 664683) 6 114052) 7 755277), oI 1014 (fun _ => 0), oI 8 (fun _ => 0), oI 8 (fun _ => 0), oI 6 (fun _ => 0), oZ 1000 (fun _ => 0), oZ 6 (fun _ => 0), oZ 6 (fun _ => 0), oZ 10 (fun _ => 0), oL 160 (fun _ => 0), oI 4 (ud (ud (ud (ud (fun _ => 0) 0 (-1)) 1 (-1)) 2 (-1)) 3 (-1)), oI 1014 (fun _ => 0)]) (2, 1037) Q
  refine wp_iinc (L' := [some (vR 51), some (vI 6)]) dX7_init_299 rfl rfl ?_
  refine wp_goto 269 dX7_init_302 rfl ?_
  refine wp_iload_n dX7_init_269 rfl ?_
  refine wp_bipush dX7_init_270 rfl ?_
  refine wp_icmp_ge 305 dX7_init_272 rfl (by unfold r32; omega) (by unfold r32; omega) (fun _ => ?_) (fun q => absurd (by decide) q)
  refine wp_aload_n dX7_init_305 rfl ?_
  refine wp_getf dX7_init_306 fX7_9 (ci_p (gs_lt hp)) rfl ?_
  refine wp_iconst dX7_init_309 ?_
  refine wp_aload_n dX7_init_310 rfl ?_
  refine wp_getf dX7_init_311 fX7_13 (ci_p (gs_lt hp)) rfl ?_
  refine wp_iconst dX7_init_314 ?_
  refine wp_sipush dX7_init_315 rfl ?_
  refine wp_copyi dX7_init_318 aX7_86 (ci_k (i := 0) hn rfl) (ci_k (i := 1) hn rfl) (by decide) (by decide) (by decide) (by decide) (by decide) (by decide) (by decide) (Nat.le_of_ble_eq_true rfl) (Nat.le_of_ble_eq_true rfl) ?_
  refine wp_re (ci_sk (i := 1) hn) ?_
  show Wp X kX7_init 321 [some (vR 51), some (vI 6)] [] (h.set 51 (oO 7 [vR 52, vR 53, vI 0, vI 0, vR 54, vI 0, vI 0, vI 0, vR 55, vR 56, vR 57, vR 58, vR 59, vR 60, vR 61, vR 62, vR 63, vI 0, vI 0, vI 0, vI 0, vI 0, vI 0, vR 64, vR 65, vR 66, vR 67, vR 68, vR 69, vI 0]) ++ [oI 1014 (ud (ud (ud (ud (ud (ud (ud (ud (ud (ud (ud (ud (ud (ud (ud (ud (ud (ud (fun _ => 0) 3 4) 4 50) 5 5) 6 6) 7 2) 9 1) ((hA 0) + 0) 0) ((hA 0) + 1) (-1)) ((hA 1) + 0) 1) ((hA 1) + 1) (-1)) ((hA 2) + 0) 2) ((hA 2) + 1) (-1)) ((hA 3) + 0) 3) ((hA 3) + 1) (-1)) ((hA 4) + 0) 4) ((hA 4) + 1) (-1)) ((hA 5) + 0) 5) ((hA 5) + 1) (-1)), oI 31434 (cpI (ud (ud (ud (ud (ud (ud (ud (ud (ud (ud (ud (ud (ud (ud (ud (ud (ud (ud (fun _ => 0) 3 4) 4 50) 5 5) 6 6) 7 2) 9 1) ((hA 0) + 0) 0) ((hA 0) + 1) (-1)) ((hA 1) + 0) 1) ((hA 1) + 1) (-1)) ((hA 2) + 0) 2) ((hA 2) + 1) (-1)) ((hA 3) + 0) 3) ((hA 3) + 1) (-1)) ((hA 4) + 0) 4) ((hA 4) + 1) (-1)) ((hA 5) + 0) 5) ((hA 5) + 1) (-1)) (fun _ => 0) 0 0 1014), oI 160 (fun _ => 0), oI 15 (fun _ => 0), oI 90 (fun _ => 0), oI 6 (fun _ => 0), oL 8 (ud (ud (ud (ud (ud (ud (ud (ud (fun _ => 0) 0 7348) 1 409067) 2 206220) 3 24716933) 4 1589657) 5 664683) 6 114052) 7 755277), oI 1014 (fun _ => 0), oI 8 (fun _ => 0), oI 8 (fun _ => 0), oI 6 (fun _ => 0), oZ 1000 (fun _ => 0), oZ 6 (fun _ => 0), oZ 6 (fun _ => 0), oZ 10 (fun _ => 0), oL 160 (fun _ => 0), oI 4 (ud (ud (ud (ud (fun _ => 0) 0 (-1)) 1 (-1)) 2 (-1)) 3 (-1)), oI 1014 (fun _ => 0)]) (2, 1037) Q
  refine wp_ret dX7_init_321 rfl ?_
  exact hQ
end CK_
