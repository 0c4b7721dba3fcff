/-! settled, the reference's face: what is counted behind the applies -/
def rs2 (g : Int → Int) : Nat → Int → Int → Int
  | 0, _, n => n
  | m + 1, k, n => if g 0 < g (582 + 2 * k) then rs2 g m (k + 1) (n + 1) else rs2 g m (k + 1) (n + 0)
def rs3 (g : Int → Int) : Nat → Int → Int → Int
  | 0, _, n => n
  | m + 1, k, n => if rOutdated g k = 0 then rs3 g m (k + 1) (n + 0) else rs3 g m (k + 1) (n + 1)
section CG
variable {X : XS} {h : AH} {Q : Option AV → AH → Prop} {g fr Kp : Int → Int} {dn km ln ik B : Int} {T P PS R Z I : Int → Int}
set_option maxHeartbeats 1000000 in
theorem lp_rs2 {i at_ ft ac mn om fw mo un : Int} {b : Nat × Nat} (m51 : h[51]? = some (oO 7 (mF dn km ln at_ ft ac mn om fw mo un ik))) (m52 : h[52]? = some (oI 1014 g)) (m59 : h[59]? = some (oI 1014 fr)) (hI : IM B g) (hBB : B ≤ 8000000) (hO : ∀ k, r32 (rOutdated g k)) : ∀ (m : Nat) (k n : Int), k + m = 60 → 0 ≤ k → Wp X kX7_settled 118 [some (vR 51), some (vI i), some (vI (rs2 g m k n)), some (vI 60)] [] h b Q → Wp X kX7_settled 84 [some (vR 51), some (vI i), some (vI n), some (vI k)] [] h b Q := by
  have hR := hI.r (by omega)
  intro m
  induction m with
  | zero =>
    intro k n q1 q2 hQ
    have hk : k = 60 := by omega
    subst hk
    unfold rs2 at hQ
    refine wp_iload_n dX7_settled_84 rfl ?_
    refine wp_bipush dX7_settled_85 rfl ?_
    refine wp_icmp_ge 118 dX7_settled_87 rfl (by first | assumption | exact hR _ | exact bI_r _ | (unfold r32; omega)) ⟨by omega, by omega⟩ (fun c87 => ?_) (fun c87 => ?_)
    · exact hQ
    · exfalso; omega
  | succ m ih =>
    intro k n q1 q2 hQ
    unfold rs2 at hQ
    refine wp_iload_n dX7_settled_84 rfl ?_
    refine wp_bipush dX7_settled_85 rfl ?_
    refine wp_icmp_ge 118 dX7_settled_87 rfl (by first | exact hO _ | exact hR _ | (unfold r32; omega)) ⟨by omega, by omega⟩ (fun c87 => ?_) (fun c87 => ?_)
    · exfalso; omega
    · refine wp_iload_n dX7_settled_90 rfl ?_
      refine wp_aload_n dX7_settled_91 rfl ?_
      refine wp_sipush dX7_settled_92 rfl ?_
      refine wp_iconst dX7_settled_95 ?_
      refine wp_iload_n dX7_settled_96 rfl ?_
      refine wp_imul dX7_settled_97 ?_
      refine wp_iadd dX7_settled_98 ?_
      refine wp_iv1 dX7_settled_99 VX7_isThere lX7_115 m51 (rq0 rfl rfl) (Nat.le_of_ble_eq_true rfl) (sa_of m52 (C_isThere (sa_mk (by decide) m51 rfl m52) (by omega) rfl rfl (hR _) (hR _) ?_))
      dsimp only [pushR]
      rw [set_same m52]
      refine wp_beq 109 dX7_settled_102 rfl (fun c102 => ?_) (fun c102 => ?_)
      · refine wp_iconst dX7_settled_109 ?_
        refine wp_iadd dX7_settled_110 ?_
        refine wp_istore_n (L' := [some (vR 51), some (vI i), some (vI (n + 0)), some (vI k)]) dX7_settled_111 (by decide) rfl ?_
        refine wp_iinc (L' := [some (vR 51), some (vI i), some (vI (n + 0)), some (vI (k + 1))]) dX7_settled_112 rfl rfl ?_
        refine wp_goto 84 dX7_settled_115 rfl ?_
        first | (rw [if_pos (by first | assumption | omega)] at hQ; exact ih (k + 1) _ (by omega) (by omega) hQ) | (rw [if_neg (by first | assumption | omega)] at hQ; exact ih (k + 1) _ (by omega) (by omega) hQ)
      · refine wp_iconst dX7_settled_105 ?_
        refine wp_goto 110 dX7_settled_106 rfl ?_
        refine wp_iadd dX7_settled_110 ?_
        refine wp_istore_n (L' := [some (vR 51), some (vI i), some (vI (n + 1)), some (vI k)]) dX7_settled_111 (by decide) rfl ?_
        refine wp_iinc (L' := [some (vR 51), some (vI i), some (vI (n + 1)), some (vI (k + 1))]) dX7_settled_112 rfl rfl ?_
        refine wp_goto 84 dX7_settled_115 rfl ?_
        first | (rw [if_pos (by first | assumption | omega)] at hQ; exact ih (k + 1) _ (by omega) (by omega) hQ) | (rw [if_neg (by first | assumption | omega)] at hQ; exact ih (k + 1) _ (by omega) (by omega) hQ)
set_option maxHeartbeats 1000000 in
theorem lp_rs3 {i at_ ft ac mn om fw mo un : Int} {b : Nat × Nat} (m51 : h[51]? = some (oO 7 (mF dn km ln at_ ft ac mn om fw mo un ik))) (m52 : h[52]? = some (oI 1014 g)) (m59 : h[59]? = some (oI 1014 fr)) (hI : IM B g) (hBB : B ≤ 8000000) (hO : ∀ k, r32 (rOutdated g k)) : ∀ (m : Nat) (k n : Int), k + m = 6 → 0 ≤ k → Wp X kX7_settled 158 [some (vR 51), some (vI i), some (vI (rs3 g m k n)), some (vI 6)] [] h b Q → Wp X kX7_settled 130 [some (vR 51), some (vI i), some (vI n), some (vI k)] [] h b Q := by
  have hR := hI.r (by omega)
  intro m
  induction m with
  | zero =>
    intro k n q1 q2 hQ
    have hk : k = 6 := by omega
    subst hk
    unfold rs3 at hQ
    refine wp_iload_n dX7_settled_130 rfl ?_
    refine wp_bipush dX7_settled_131 rfl ?_
    refine wp_icmp_ge 158 dX7_settled_133 rfl (by first | assumption | exact hR _ | exact bI_r _ | (unfold r32; omega)) ⟨by omega, by omega⟩ (fun c133 => ?_) (fun c133 => ?_)
    · exact hQ
    · exfalso; omega
  | succ m ih =>
    intro k n q1 q2 hQ
    unfold rs3 at hQ
    refine wp_iload_n dX7_settled_130 rfl ?_
    refine wp_bipush dX7_settled_131 rfl ?_
    refine wp_icmp_ge 158 dX7_settled_133 rfl (by first | exact hO _ | exact hR _ | (unfold r32; omega)) ⟨by omega, by omega⟩ (fun c133 => ?_) (fun c133 => ?_)
    · exfalso; omega
    · refine wp_iload_n dX7_settled_136 rfl ?_
      refine wp_aload_n dX7_settled_137 rfl ?_
      refine wp_iload_n dX7_settled_138 rfl ?_
      refine wp_iv1 dX7_settled_139 VX7_outdated lX7_294 m51 (rq0 rfl rfl) (Nat.le_of_ble_eq_true rfl) (sa_of m52 (C_routdated (sa_mk (by decide) m51 rfl m52) hI (by omega) (by unfold r32; omega) ?_))
      dsimp only [pushR]
      rw [set_same m52]
      refine wp_if_ne 149 dX7_settled_142 rfl (by first | exact hO _ | exact hR _ | (unfold r32; omega)) (fun c142 => ?_) (fun c142 => ?_)
      · refine wp_iconst dX7_settled_149 ?_
        refine wp_iadd dX7_settled_150 ?_
        refine wp_istore_n (L' := [some (vR 51), some (vI i), some (vI (n + 1)), some (vI k)]) dX7_settled_151 (by decide) rfl ?_
        refine wp_iinc (L' := [some (vR 51), some (vI i), some (vI (n + 1)), some (vI (k + 1))]) dX7_settled_152 rfl rfl ?_
        refine wp_goto 130 dX7_settled_155 rfl ?_
        first | (rw [if_pos (by first | assumption | omega)] at hQ; exact ih (k + 1) _ (by omega) (by omega) hQ) | (rw [if_neg (by first | assumption | omega)] at hQ; exact ih (k + 1) _ (by omega) (by omega) hQ)
      · refine wp_iconst dX7_settled_145 ?_
        refine wp_goto 150 dX7_settled_146 rfl ?_
        refine wp_iadd dX7_settled_150 ?_
        refine wp_istore_n (L' := [some (vR 51), some (vI i), some (vI (n + 0)), some (vI k)]) dX7_settled_151 (by decide) rfl ?_
        refine wp_iinc (L' := [some (vR 51), some (vI i), some (vI (n + 0)), some (vI (k + 1))]) dX7_settled_152 rfl rfl ?_
        refine wp_goto 130 dX7_settled_155 rfl ?_
        first | (rw [if_pos (by first | assumption | omega)] at hQ; exact ih (k + 1) _ (by omega) (by omega) hQ) | (rw [if_neg (by first | assumption | omega)] at hQ; exact ih (k + 1) _ (by omega) (by omega) hQ)
def rSt4 (g : Int → Int) (n i : Int) : Int := if i = 1 then rc1 g 6 0 0 else if i = 2 then rs2 g 60 0 0 else if i = 3 then rs3 g 6 0 0 else n
set_option maxHeartbeats 2000000 in
theorem lp_s61 {i n y3 : Int} {b : Nat × Nat} (hM : MV h g Kp dn km T ln P PS R Z I ik) (m59 : h[59]? = some (oI 1014 fr)) (hI : IM B g) (hBB : B ≤ 8000000) (hR2 : ∀ j, r32 (PS j)) (hO : ∀ k, r32 (rOutdated g k)) (ri : r32 i) (hQ : Q (some (vI (rSt4 g n i))) (h.set 52 (oI 1014 (cpI fr g 0 0 1014)))) : Wp X kX7_settled 61 [some (vR 51), some (vI i), some (vI n), some (vI y3)] [] h b Q := by
  obtain ⟨⟨at_, ft, ac, mn, om, fw, mo, un, m51⟩, m52, m53, m54, -, m56, m57, -, -, -, -, -, -, -, -, m67, m68, m69, -⟩ := id hM
  refine wp_iload_n dX7_settled_61 rfl ?_
  refine wp_iconst dX7_settled_62 ?_
  refine wp_icmp_ne 75 dX7_settled_63 rfl (by first | assumption | exact hR _ | exact bI_r _ | (unfold r32; omega)) ⟨by omega, by omega⟩ (fun c63 => ?_) (fun c63 => ?_)
  · refine wp_iload_n dX7_settled_75 rfl ?_
    refine wp_iconst dX7_settled_76 ?_
    refine wp_icmp_ne 121 dX7_settled_77 rfl (by first | assumption | exact hR _ | exact bI_r _ | (unfold r32; omega)) ⟨by omega, by omega⟩ (fun c77 => ?_) (fun c77 => ?_)
    · refine wp_iload_n dX7_settled_121 rfl ?_
      refine wp_iconst dX7_settled_122 ?_
      refine wp_icmp_ne 158 dX7_settled_123 rfl (by first | assumption | exact hR _ | exact bI_r _ | (unfold r32; omega)) ⟨by omega, by omega⟩ (fun c123 => ?_) (fun c123 => ?_)
      · refine wp_aload_n dX7_settled_158 rfl ?_
        refine wp_getf dX7_settled_159 fX7_48 m51 rfl ?_
        refine wp_iconst dX7_settled_162 ?_
        refine wp_aload_n dX7_settled_163 rfl ?_
        refine wp_getf dX7_settled_164 fX7_9 m51 rfl ?_
        refine wp_iconst dX7_settled_167 ?_
        refine wp_sipush dX7_settled_168 rfl ?_
        refine wp_copyi dX7_settled_171 aX7_86 m59 m52 (by decide) (by decide) (by omega) (by omega) (by omega) (by omega) (by omega) (Nat.le_of_ble_eq_true rfl) (Nat.le_of_ble_eq_true rfl) ?_
        refine wp_iload_n dX7_settled_174 rfl ?_
        exact wp_iret dX7_settled_175 rfl (by have q := hQ; unfold rSt4 at q; (repeat' split at q) <;> first | (exfalso; omega) | exact q)
      · refine wp_iconst dX7_settled_126 ?_
        refine wp_istore_n (L' := [some (vR 51), some (vI i), some (vI 0), some (vI y3)]) dX7_settled_127 (by decide) rfl ?_
        refine wp_iconst dX7_settled_128 ?_
        refine wp_istore_n (L' := [some (vR 51), some (vI i), some (vI 0), some (vI 0)]) dX7_settled_129 (by decide) rfl ?_
        refine lp_rs3 m51 m52 m59 hI hBB hO 6 0 0 (by omega) (by omega) ?_
        refine wp_aload_n dX7_settled_158 rfl ?_
        refine wp_getf dX7_settled_159 fX7_48 m51 rfl ?_
        refine wp_iconst dX7_settled_162 ?_
        refine wp_aload_n dX7_settled_163 rfl ?_
        refine wp_getf dX7_settled_164 fX7_9 m51 rfl ?_
        refine wp_iconst dX7_settled_167 ?_
        refine wp_sipush dX7_settled_168 rfl ?_
        refine wp_copyi dX7_settled_171 aX7_86 m59 m52 (by decide) (by decide) (by omega) (by omega) (by omega) (by omega) (by omega) (Nat.le_of_ble_eq_true rfl) (Nat.le_of_ble_eq_true rfl) ?_
        refine wp_iload_n dX7_settled_174 rfl ?_
        exact wp_iret dX7_settled_175 rfl (by have q := hQ; unfold rSt4 at q; (repeat' split at q) <;> first | (exfalso; omega) | exact q)
    · refine wp_iconst dX7_settled_80 ?_
      refine wp_istore_n (L' := [some (vR 51), some (vI i), some (vI 0), some (vI y3)]) dX7_settled_81 (by decide) rfl ?_
      refine wp_iconst dX7_settled_82 ?_
      refine wp_istore_n (L' := [some (vR 51), some (vI i), some (vI 0), some (vI 0)]) dX7_settled_83 (by decide) rfl ?_
      refine lp_rs2 m51 m52 m59 hI hBB hO 60 0 0 (by omega) (by omega) ?_
      refine wp_goto 158 dX7_settled_118 rfl ?_
      refine wp_aload_n dX7_settled_158 rfl ?_
      refine wp_getf dX7_settled_159 fX7_48 m51 rfl ?_
      refine wp_iconst dX7_settled_162 ?_
      refine wp_aload_n dX7_settled_163 rfl ?_
      refine wp_getf dX7_settled_164 fX7_9 m51 rfl ?_
      refine wp_iconst dX7_settled_167 ?_
      refine wp_sipush dX7_settled_168 rfl ?_
      refine wp_copyi dX7_settled_171 aX7_86 m59 m52 (by decide) (by decide) (by omega) (by omega) (by omega) (by omega) (by omega) (Nat.le_of_ble_eq_true rfl) (Nat.le_of_ble_eq_true rfl) ?_
      refine wp_iload_n dX7_settled_174 rfl ?_
      exact wp_iret dX7_settled_175 rfl (by have q := hQ; unfold rSt4 at q; (repeat' split at q) <;> first | (exfalso; omega) | exact q)
  · refine wp_aload_n dX7_settled_66 rfl ?_
    refine wp_iconst dX7_settled_67 ?_
    refine wp_iv1 dX7_settled_68 VX7_count lX7_320 m51 (rq0 rfl rfl) (Nat.le_of_ble_eq_true rfl) (C_rcount hM hI hBB hR2 (by unfold r32; omega) ?_)
    dsimp only [pushR]
    refine wp_istore_n (L' := [some (vR 51), some (vI i), some (vI (rCount g PS ln dn 1)), some (vI y3)]) dX7_settled_71 (by decide) rfl ?_
    refine wp_goto 158 dX7_settled_72 rfl ?_
    refine wp_aload_n dX7_settled_158 rfl ?_
    refine wp_getf dX7_settled_159 fX7_48 m51 rfl ?_
    refine wp_iconst dX7_settled_162 ?_
    refine wp_aload_n dX7_settled_163 rfl ?_
    refine wp_getf dX7_settled_164 fX7_9 m51 rfl ?_
    refine wp_iconst dX7_settled_167 ?_
    refine wp_sipush dX7_settled_168 rfl ?_
    refine wp_copyi dX7_settled_171 aX7_86 m59 m52 (by decide) (by decide) (by omega) (by omega) (by omega) (by omega) (by omega) (Nat.le_of_ble_eq_true rfl) (Nat.le_of_ble_eq_true rfl) ?_
    refine wp_iload_n dX7_settled_174 rfl ?_
    exact wp_iret dX7_settled_175 rfl (by have q := hQ; unfold rSt4 at q; (repeat' split at q) <;> first | (exfalso; omega) | exact q)
end CG
