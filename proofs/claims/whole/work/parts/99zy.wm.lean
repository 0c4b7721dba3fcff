/-! the law's loop, whole -/
section WM_
variable {X : XS} {h : AH} {Q : Option AV → AH → Prop} {nm : String}
set_option maxHeartbeats 4000000 in
theorem lp_law (hX : X.1 ≤ 2560) (hv : ∀ j, r32 (X.2 j)) (hQ : ∀ h, Q (some (vI 1)) h) : ∀ (m : Nat) (h : AH) (B i : Int) (c s : Nat), INV B h → 0 ≤ i → i + 5 * m = 2560 → 1000 ≤ B → B + 3000 * m + 108000 ≤ 8000000 → m ≤ c → 1060 * m ≤ s → Wp X (kLn nm) 18 (LL i) [] h (c, s) Q := by
  intro m
  induction m with
  | zero =>
    intro h B i c s hI hi hm hB hB2 hc hs
    refine wp_iload_n dL_law_18 rfl ?_
    refine wp_aload_n dL_law_19 rfl ?_
    refine wp_slen dL_law_20 ?_
    refine wp_iconst dL_law_21 ?_
    refine wp_isub dL_law_22 ?_
    refine wp_icmp_gt 1586 dL_law_23 rfl (by unfold r32; omega) (by unfold r32; omega) (fun _ => ?_) (fun q => absurd (by omega) q)
    refine wp_iconst dL_law_1586 ?_
    exact wp_zret dL_law_1587 rfl (Or.inr rfl) (hQ _)
  | succ m ih =>
    intro h B i c s hI hi hm hB hB2 hc hs
    obtain ⟨hI1, h1, fs, q1, q2, q3⟩ := hI.one
    refine wp_cut q1 q2 q3 ?_
    refine wp_iload_n dL_law_18 rfl ?_
    refine wp_aload_n dL_law_19 rfl ?_
    refine wp_slen dL_law_20 ?_
    refine wp_iconst dL_law_21 ?_
    refine wp_isub dL_law_22 ?_
    refine wp_icmp_gt 1586 dL_law_23 rfl (by unfold r32; omega) (by unfold r32; omega) (fun _ => ?_) (fun q0 => ?_)
    · refine wp_iconst dL_law_1586 ?_
      exact wp_zret dL_law_1587 rfl (Or.inr rfl) (hQ _)
    · obtain ⟨c, rfl⟩ : ∃ c', c = c' + 1 := ⟨c - 1, by omega⟩
      obtain ⟨s, rfl⟩ : ∃ s', s = s' + 1060 := ⟨s - 1060, by omega⟩
      have hi5 : 0 ≤ i ∧ i + 5 ≤ X.1 := by omega
      have hB' : 1000 ≤ B ∧ B + 108000 ≤ 8000000 := by omega
      have kt : ∀ h', INV (B + 3000) h' → Wp X (kLn nm) 1580 (LL i) [] h' (c, s) Q := fun h' hI' => by
        refine wp_iinc (L' := LL (i + 5)) dL_law_1580 rfl rfl ?_
        refine wp_goto 18 dL_law_1583 rfl ?_
        exact ih h' (B + 3000) (i + 5) c s hI' (by omega) (by omega) (by omega) (by omega) (by omega) (by omega)
      have kb : INV (B + 3000) (h.set 1 (oO 5 [vR 2])) := hI1.up (by omega)
      have wp_le : ∀ pc h', Wp X (kLn nm) pc (LL i) [] h' (c, s) Q → Wp X (kLn nm) pc (LL i) [] h' (c + 1, s + 1060) Q := fun pc h' k => fun p l e R st mm args below meth cd D E A ad0 n0 Z C hz ad ca H locs cells slots ls hH hS hE hL hO hls hcc hss => k p l e R st mm args below meth cd D E A ad0 n0 Z C hz ad ca H locs cells slots ls hH hS hE hL hO hls (by have hcc' : cells + (c + 1) ≤ R.cells := hcc; show cells + c ≤ R.cells; omega) (by have hss' : slots + (s + 1060) ≤ R.slots := hss; show slots + s ≤ R.slots; omega)
      have k80 := wp_le 1580 _ (kt _ kb)
      refine wp_aload_n dL_law_26 rfl ?_
      refine wp_iload_n dL_law_27 rfl ?_
      refine wp_sld dL_law_28 hX (by omega) ?_
      refine wp_bipush dL_law_29 rfl ?_
      refine wp_iand dL_law_31 (an32_h _ _) ?_
      have rz : r32 (an32 (X.2 i) 63) := r32_i _
      generalize an32 (X.2 i) 63 = z at *
      rcases Decidable.em (z < 0 ∨ 42 < z) with cz | cz
      · exact wp_tableOut 1580 dL_law_32 rz cz rfl k80
      · rcases (by omega : z = 0 ∨ z = 1 ∨ z = 2 ∨ z = 3 ∨ z = 4 ∨ z = 5 ∨ z = 6 ∨ z = 7 ∨ z = 8 ∨ z = 9 ∨ z = 10 ∨ z = 11 ∨ z = 12 ∨ z = 13 ∨ z = 14 ∨ z = 15 ∨ z = 16 ∨ z = 17 ∨ z = 18 ∨ z = 19 ∨ z = 20 ∨ z = 21 ∨ z = 22 ∨ z = 23 ∨ z = 24 ∨ z = 25 ∨ z = 26 ∨ z = 27 ∨ z = 28 ∨ z = 29 ∨ z = 30 ∨ z = 31 ∨ z = 32 ∨ z = 33 ∨ z = 34 ∨ z = 35 ∨ z = 36 ∨ z = 37 ∨ z = 38 ∨ z = 39 ∨ z = 40 ∨ z = 41 ∨ z = 42) with rfl | rfl | rfl | rfl | rfl | rfl | rfl | rfl | rfl | rfl | rfl | rfl | rfl | rfl | rfl | rfl | rfl | rfl | rfl | rfl | rfl | rfl | rfl | rfl | rfl | rfl | rfl | rfl | rfl | rfl | rfl | rfl | rfl | rfl | rfl | rfl | rfl | rfl | rfl | rfl | rfl | rfl | rfl
        · exact wp_tableIn (off := 188) 220 dL_law_32 rz (by decide) (by decide) rfl rfl (W_get hX hv hi5 hI1 hB' kt)
        · exact wp_tableIn (off := 221) 253 dL_law_32 rz (by decide) (by decide) rfl rfl (W_look hX hv hi5 hI1 hB' kt)
        · exact wp_tableIn (off := 244) 276 dL_law_32 rz (by decide) (by decide) rfl rfl (W_fill hX hv hi5 hI1 hB' kt)
        · exact wp_tableIn (off := 267) 299 dL_law_32 rz (by decide) (by decide) rfl rfl (W_write hX hv hi5 hI1 hB' kt)
        · exact wp_tableIn (off := 310) 342 dL_law_32 rz (by decide) (by decide) rfl rfl (W_apply hX hv hi5 hI1 hB' kt)
        · exact wp_tableIn (off := 333) 365 dL_law_32 rz (by decide) (by decide) rfl rfl (W_tick hX hv hi5 hI1 hB' kt)
        · exact wp_tableIn (off := 356) 388 dL_law_32 rz (by decide) (by decide) rfl rfl (W_cold hX hv hi5 hI1 hB' kt)
        · exact wp_tableIn (off := 389) 421 dL_law_32 rz (by decide) (by decide) rfl rfl (W_go hX hv hi5 hI1 hB' kt)
        · exact wp_tableIn (off := 422) 454 dL_law_32 rz (by decide) (by decide) rfl rfl (W_set hX hv hi5 hI1 hB' kt)
        · exact wp_tableIn (off := 455) 487 dL_law_32 rz (by decide) (by decide) rfl rfl (W_next hX hv hi5 hI1 hB' kt)
        · exact wp_tableIn (off := 468) 500 dL_law_32 rz (by decide) (by decide) rfl rfl (W_undo hX hv hi5 hI1 hB' kt)
        · exact wp_tableIn (off := 481) 513 dL_law_32 rz (by decide) (by decide) rfl rfl (W_redo hX hv hi5 hI1 hB' kt)
        · exact wp_tableIn (off := 494) 526 dL_law_32 rz (by decide) (by decide) rfl rfl (W_setting hX hv hi5 hI1 hB' kt)
        · exact wp_tableIn (off := 517) 549 dL_law_32 rz (by decide) (by decide) rfl rfl (W_entry hX hv hi5 hI1 hB' kt)
        · exact wp_tableIn (off := 560) 592 dL_law_32 rz (by decide) (by decide) rfl rfl (W_beside hX hv hi5 hI1 hB' kt)
        · exact wp_tableIn (off := 603) 635 dL_law_32 rz (by decide) (by decide) rfl rfl (W_client hX hv hi5 hI1 hB' kt)
        · exact wp_tableIn (off := 636) 668 dL_law_32 rz (by decide) (by decide) rfl rfl (W_store hX hv hi5 hI1 hB' kt)
        · exact wp_tableIn (off := 679) 711 dL_law_32 rz (by decide) (by decide) rfl rfl (W_region hX hv hi5 hI1 hB' kt)
        · exact wp_tableIn (off := 712) 744 dL_law_32 rz (by decide) (by decide) rfl rfl (W_within hX hv hi5 hI1 hB' kt)
        · exact wp_tableIn (off := 755) 787 dL_law_32 rz (by decide) (by decide) rfl rfl (W_least hX hv hi5 hI1 hB' kt)
        · exact wp_tableIn (off := 788) 820 dL_law_32 rz (by decide) (by decide) rfl rfl (W_outdated hX hv hi5 hI1 hB' kt)
        · exact wp_tableIn (off := 811) 843 dL_law_32 rz (by decide) (by decide) rfl rfl (W_lag hX hv hi5 hI1 hB' kt)
        · exact wp_tableIn (off := 844) 876 dL_law_32 rz (by decide) (by decide) rfl rfl (W_own hX hv hi5 hI1 hB' kt)
        · exact wp_tableIn (off := 877) 909 dL_law_32 rz (by decide) (by decide) rfl rfl (W_due hX hv hi5 hI1 hB' kt)
        · exact wp_tableIn (off := 910) 942 dL_law_32 rz (by decide) (by decide) rfl rfl (W_hottest hX hv hi5 hI1 hB' kt)
        · exact wp_tableIn (off := 933) 965 dL_law_32 rz (by decide) (by decide) rfl rfl (W_led hX hv hi5 hI1 hB' kt)
        · exact wp_tableIn (off := 956) 988 dL_law_32 rz (by decide) (by decide) rfl rfl (W_storm hX hv hi5 hI1 h1 hB' kt)
        · exact wp_tableIn (off := 1009) 1041 dL_law_32 rz (by decide) (by decide) rfl rfl (W_settled hX hv hi5 hI1 h1 hB' kt)
        · exact wp_tableIn (off := 1032) 1064 dL_law_32 rz (by decide) (by decide) rfl rfl (W_tried hX hv hi5 hI1 h1 hB' kt)
        · exact wp_tableIn (off := 1075) 1107 dL_law_32 rz (by decide) (by decide) rfl rfl (W_best hX hv hi5 hI1 h1 hB' kt)
        · exact wp_tableIn (off := 1108) 1140 dL_law_32 rz (by decide) (by decide) rfl rfl (W_foreseen hX hv hi5 hI1 h1 hB' kt)
        · exact wp_tableIn (off := 1141) 1173 dL_law_32 rz (by decide) (by decide) rfl rfl (W_feed hX hv hi5 hI1 hB' kt)
        · exact wp_tableIn (off := 1164) 1196 dL_law_32 rz (by decide) (by decide) rfl rfl (W_plan hX hv hi5 hI1 hB' kt)
        · exact wp_tableIn (off := 1187) 1219 dL_law_32 rz (by decide) (by decide) rfl rfl (W_orders hX hv hi5 hI1 h1 hB' kt)
        · exact wp_tableIn (off := 1230) 1262 dL_law_32 rz (by decide) (by decide) rfl rfl (W_witness hX hv hi5 hI1 h1 hB' kt)
        · exact wp_tableIn (off := 1263) 1295 dL_law_32 rz (by decide) (by decide) rfl rfl (W_row hX hv hi5 hI1 hB' kt)
        · exact wp_tableIn (off := 1296) 1328 dL_law_32 rz (by decide) (by decide) rfl rfl (W_put hX hv hi5 hI1 hB' kt)
        · exact wp_tableIn (off := 1369) 1401 dL_law_32 rz (by decide) (by decide) rfl rfl (W_element hX hv hi5 hI1 hB' kt)
        · exact wp_tableIn (off := 1403) 1435 dL_law_32 rz (by decide) (by decide) rfl rfl (W_save hX hv hi5 hI1 hB' kt)
        · exact wp_tableIn (off := 1446) 1478 dL_law_32 rz (by decide) (by decide) rfl rfl (W_restore hX hv hi5 hI1 hB' kt)
        · exact wp_tableIn (off := 1499) 1531 dL_law_32 rz (by decide) (by decide) rfl rfl (W_image hX hv hi5 hI1 hB' kt)
        · exact wp_tableIn (off := 1512) 1544 dL_law_32 rz (by decide) (by decide) rfl rfl (W_back hX hv hi5 hI1 hB' kt)
        · exact wp_tableIn (off := 1525) 1557 dL_law_32 rz (by decide) (by decide) rfl rfl (W_count hX hv hi5 hI1 hB' kt)
end WM_
