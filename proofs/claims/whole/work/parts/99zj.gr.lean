/-! all orders, the reference -/
def rOb (P g : Int → Int) (key n : Int) (o : Int → Int) : Int × Int × Int :=
  (rLd (exR P o n.toNat 0 z0 g) - rLd g, anL (exR P o n.toNat 0 z0 g) 6 0 0, if (exR P o n.toNat 0 z0 g) 0 < (exR P o n.toNat 0 z0 g) (eA 0 key) then (exR P o n.toNat 0 z0 g) (eA 0 key + 1) else -1)
section GR_
variable {X : XS} {h h0 : AH} {Q : Option AV → AH → Prop} {K Fs S : Int → Int → Int} {sz P PS o cl dd f g fr gc ws fv dO : Int → Int} {n t s l m un B x key i dn km ln at_ ft ik : Int} {b : Nat × Nat}
theorem exR_cong (hI : INo cl o n) : ∀ (mm : Nat) (i : Int) (dd dd' g : Int → Int), i + mm = n → 0 ≤ i → (∀ c, 0 ≤ c ∧ c < 6 → dd c = dd' c) → exR P o mm i dd g = exR P o mm i dd' g := by
  intro mm
  induction mm with
  | zero => intro i dd dd' f _ _ _; rfl
  | succ mm ih =>
    intro i dd dd' f h1 h2 hd
    have a := (hI i (by omega)).1
    unfold exR
    rw [hd (o i) a]
    refine ih (i + 1) _ _ _ (by omega) (by omega) (fun c hc => ?_)
    unfold ud
    split
    · rfl
    · exact hd c hc
theorem rLd_b (hA : AK B f g) : 0 ≤ rLd g ∧ rLd g ≤ 3 * B := by
  have b0 := hA.2.1.b 13
  have b1 := hA.2.1.b 14
  have b2 := hA.2.1.b 15
  have c0 := hA.2.1.n0 (j := 13) (by omega)
  have c1 := hA.2.1.n0 (j := 14) (by omega)
  have c2 := hA.2.1.n0 (j := 15) (by omega)
  unfold rLd
  omega
set_option maxHeartbeats 4000000 in
theorem lp_gr (h56 : h0[56]? = some (oI 90 P)) (h59 : h0[59]? = some (oI 1014 (cpI g fr 0 0 1014))) (hz : ZM g) (hR : PRel K Fs S sz P PS) (hw : WB cl) (h3 : cnt cl ≤ 3) (hA : AK B f g) (hB : 1000 ≤ B) (hBB : B + 10000 ≤ 8000000) (hk : 0 ≤ key ∧ key < 10) : ∀ (kk : Nat) (o : Int → Int) (t s l m un : Int) (ws dO fv gc : Int → Int) (h : AH) (y4 y5 : Option AV), 6561 ≤ wvO (rkO cl) o n.toNat + kk → ORD cl sz o n → (0 ≤ s ∧ s ≤ wvO (rkO cl) o n.toNat) → r32 l → r32 m → ZM gc → (∀ v, 0 ≤ v ∧ v < 1000 → fv v = 0 ∨ fv v = 1) → RPO h0 h dn km ln at_ ft ik n t s l m un o ws dO fv gc → (∀ h' o' dO' fv' g' y4 y5, ZM g' → RPO h0 h' dn km ln at_ ft ik n (ordL (rOb P g key n) n kk o t s l m un ws fv).1 (ordL (rOb P g key n) n kk o t s l m un ws fv).2.1 (ordL (rOb P g key n) n kk o t s l m un ws fv).2.2.1 (ordL (rOb P g key n) n kk o t s l m un ws fv).2.2.2.1 (ordL (rOb P g key n) n kk o t s l m un ws fv).2.2.2.2.1 o' (ordL (rOb P g key n) n kk o t s l m un ws fv).2.2.2.2.2 dO' fv' g' → Wp X kX7_goesThrough 199 [some (vR 51), some (vI x), some (vI key), some (vI 0), y4, y5] [] h' b Q) → Wp X kX7_goesThrough 72 [some (vR 51), some (vI x), some (vI key), some (vI 1), y4, y5] [] h b Q := by
  intro kk
  induction kk with
  | zero =>
    intro o t s l m un ws dO fv gc h y4 y5 q0 hO
    have := wvO_ok hw h3 hO.1 hO.2.1
    exact absurd q0 (by omega)
  | succ kk ih =>
    intro o t s l m un ws dO fv gc h y4 y5 q0 hO q2 rl rm hzc hf hp hQ
    obtain ⟨s1, s2, s51, s52, s60, s61, s62, s63⟩ := id hp
    have vb := wvO_ok hw h3 hO.1 hO.2.1
    have s59 := (s2 59 (by decide) (by decide) (by decide)).trans h59
    have hn := hO.1
    have hob : rOb P g key n o = (rLd (exR P o n.toNat 0 z0 g) - rLd g, anL (exR P o n.toNat 0 z0 g) 6 0 0, if (exR P o n.toNat 0 z0 g) 0 < (exR P o n.toNat 0 z0 g) (eA 0 key) then (exR P o n.toNat 0 z0 g) (eA 0 key + 1) else -1) := rfl
    unfold ordL at hQ
    rw [hob] at hQ
    dsimp only at hQ
    refine wp_iload_n dX7_goesThrough_72 rfl ?_
    refine wp_if_eq 199 dX7_goesThrough_73 rfl ⟨by omega, by omega⟩ (fun c73 => absurd c73 (by omega)) (fun c73 => ?_)
    refine wp_aload_n dX7_goesThrough_76 rfl ?_
    refine wp_getf dX7_goesThrough_77 fX7_48 s51 rfl ?_
    refine wp_iconst dX7_goesThrough_80 ?_
    refine wp_aload_n dX7_goesThrough_81 rfl ?_
    refine wp_getf dX7_goesThrough_82 fX7_9 s51 rfl ?_
    refine wp_iconst dX7_goesThrough_85 ?_
    refine wp_sipush dX7_goesThrough_86 rfl ?_
    refine wp_copyi dX7_goesThrough_89 aX7_86 s59 s52 (by decide) (by decide) (by omega) (by omega) (by omega) (by omega) (by omega) (Nat.le_of_ble_eq_true rfl) (Nat.le_of_ble_eq_true rfl) ?_
    rw [cp_back hz hzc]
    refine wp_aload_n dX7_goesThrough_92 rfl ?_
    refine wp_iv0 dX7_goesThrough_93 VX7_loads lX7_281 (gs_ne (by decide) s51) (rq0 rfl rfl) (Nat.le_of_ble_eq_true rfl) (C_rloads (gs_ne (by decide) s51) (gs_eq (gs_lt s52)) ?_)
    dsimp only [pushR]
    refine wp_istore (L' := [some (vR 51), some (vI x), some (vI key), some (vI 1), some (vI (rLd g)), y5]) dX7_goesThrough_96 (by decide) rfl ?_
    refine wp_iconst dX7_goesThrough_98 ?_
    refine wp_istore (L' := [some (vR 51), some (vI x), some (vI key), some (vI 1), some (vI (rLd g)), some (vI 0)]) dX7_goesThrough_99 (by decide) rfl ?_
    refine wp_iload dX7_goesThrough_101 rfl ?_
    refine wp_bipush dX7_goesThrough_103 rfl ?_
    refine wp_icmp_ge 122 dX7_goesThrough_105 rfl ⟨by omega, by omega⟩ ⟨by omega, by omega⟩ (fun c105 => absurd c105 (by omega)) (fun c105 => ?_)
    refine wp_aload_n dX7_goesThrough_108 rfl ?_
    refine wp_getf dX7_goesThrough_109 fX7_57 (gs_ne (by decide) s51) rfl ?_
    refine wp_iload dX7_goesThrough_112 rfl ?_
    refine wp_iconst dX7_goesThrough_114 ?_
    refine wp_isv dX7_goesThrough_115 (gs_ne (by decide) s62) (by decide) (by omega) ?_
    refine wp_iinc (L' := [some (vR 51), some (vI x), some (vI key), some (vI 1), some (vI (rLd g)), some (vI 1)]) dX7_goesThrough_116 rfl rfl ?_
    refine wp_goto 101 dX7_goesThrough_119 rfl ?_
    refine wp_iload dX7_goesThrough_101 rfl ?_
    refine wp_bipush dX7_goesThrough_103 rfl ?_
    refine wp_icmp_ge 122 dX7_goesThrough_105 rfl ⟨by omega, by omega⟩ ⟨by omega, by omega⟩ (fun c105 => absurd c105 (by omega)) (fun c105 => ?_)
    refine wp_aload_n dX7_goesThrough_108 rfl ?_
    refine wp_getf dX7_goesThrough_109 fX7_57 (gs_ne (by decide) (gs_ne (by decide) s51)) rfl ?_
    refine wp_iload dX7_goesThrough_112 rfl ?_
    refine wp_iconst dX7_goesThrough_114 ?_
    refine wp_isv dX7_goesThrough_115 (gs_eq (gs_l (gs_lt s62))) (by decide) (by omega) ?_
    refine wp_iinc (L' := [some (vR 51), some (vI x), some (vI key), some (vI 1), some (vI (rLd g)), some (vI 2)]) dX7_goesThrough_116 rfl rfl ?_
    refine wp_goto 101 dX7_goesThrough_119 rfl ?_
    refine wp_iload dX7_goesThrough_101 rfl ?_
    refine wp_bipush dX7_goesThrough_103 rfl ?_
    refine wp_icmp_ge 122 dX7_goesThrough_105 rfl ⟨by omega, by omega⟩ ⟨by omega, by omega⟩ (fun c105 => absurd c105 (by omega)) (fun c105 => ?_)
    refine wp_aload_n dX7_goesThrough_108 rfl ?_
    refine wp_getf dX7_goesThrough_109 fX7_57 (gs_ne (by decide) (gs_ne (by decide) (gs_ne (by decide) s51))) rfl ?_
    refine wp_iload dX7_goesThrough_112 rfl ?_
    refine wp_iconst dX7_goesThrough_114 ?_
    refine wp_isv dX7_goesThrough_115 (gs_eq (gs_l (gs_l (gs_lt s62)))) (by decide) (by omega) ?_
    refine wp_iinc (L' := [some (vR 51), some (vI x), some (vI key), some (vI 1), some (vI (rLd g)), some (vI 3)]) dX7_goesThrough_116 rfl rfl ?_
    refine wp_goto 101 dX7_goesThrough_119 rfl ?_
    refine wp_iload dX7_goesThrough_101 rfl ?_
    refine wp_bipush dX7_goesThrough_103 rfl ?_
    refine wp_icmp_ge 122 dX7_goesThrough_105 rfl ⟨by omega, by omega⟩ ⟨by omega, by omega⟩ (fun c105 => absurd c105 (by omega)) (fun c105 => ?_)
    refine wp_aload_n dX7_goesThrough_108 rfl ?_
    refine wp_getf dX7_goesThrough_109 fX7_57 (gs_ne (by decide) (gs_ne (by decide) (gs_ne (by decide) (gs_ne (by decide) s51)))) rfl ?_
    refine wp_iload dX7_goesThrough_112 rfl ?_
    refine wp_iconst dX7_goesThrough_114 ?_
    refine wp_isv dX7_goesThrough_115 (gs_eq (gs_l (gs_l (gs_l (gs_lt s62))))) (by decide) (by omega) ?_
    refine wp_iinc (L' := [some (vR 51), some (vI x), some (vI key), some (vI 1), some (vI (rLd g)), some (vI 4)]) dX7_goesThrough_116 rfl rfl ?_
    refine wp_goto 101 dX7_goesThrough_119 rfl ?_
    refine wp_iload dX7_goesThrough_101 rfl ?_
    refine wp_bipush dX7_goesThrough_103 rfl ?_
    refine wp_icmp_ge 122 dX7_goesThrough_105 rfl ⟨by omega, by omega⟩ ⟨by omega, by omega⟩ (fun c105 => absurd c105 (by omega)) (fun c105 => ?_)
    refine wp_aload_n dX7_goesThrough_108 rfl ?_
    refine wp_getf dX7_goesThrough_109 fX7_57 (gs_ne (by decide) (gs_ne (by decide) (gs_ne (by decide) (gs_ne (by decide) (gs_ne (by decide) s51))))) rfl ?_
    refine wp_iload dX7_goesThrough_112 rfl ?_
    refine wp_iconst dX7_goesThrough_114 ?_
    refine wp_isv dX7_goesThrough_115 (gs_eq (gs_l (gs_l (gs_l (gs_l (gs_lt s62)))))) (by decide) (by omega) ?_
    refine wp_iinc (L' := [some (vR 51), some (vI x), some (vI key), some (vI 1), some (vI (rLd g)), some (vI 5)]) dX7_goesThrough_116 rfl rfl ?_
    refine wp_goto 101 dX7_goesThrough_119 rfl ?_
    refine wp_iload dX7_goesThrough_101 rfl ?_
    refine wp_bipush dX7_goesThrough_103 rfl ?_
    refine wp_icmp_ge 122 dX7_goesThrough_105 rfl ⟨by omega, by omega⟩ ⟨by omega, by omega⟩ (fun c105 => absurd c105 (by omega)) (fun c105 => ?_)
    refine wp_aload_n dX7_goesThrough_108 rfl ?_
    refine wp_getf dX7_goesThrough_109 fX7_57 (gs_ne (by decide) (gs_ne (by decide) (gs_ne (by decide) (gs_ne (by decide) (gs_ne (by decide) (gs_ne (by decide) s51)))))) rfl ?_
    refine wp_iload dX7_goesThrough_112 rfl ?_
    refine wp_iconst dX7_goesThrough_114 ?_
    refine wp_isv dX7_goesThrough_115 (gs_eq (gs_l (gs_l (gs_l (gs_l (gs_l (gs_lt s62))))))) (by decide) (by omega) ?_
    refine wp_iinc (L' := [some (vR 51), some (vI x), some (vI key), some (vI 1), some (vI (rLd g)), some (vI 6)]) dX7_goesThrough_116 rfl rfl ?_
    refine wp_goto 101 dX7_goesThrough_119 rfl ?_
    refine wp_iload dX7_goesThrough_101 rfl ?_
    refine wp_bipush dX7_goesThrough_103 rfl ?_
    refine wp_icmp_ge 122 dX7_goesThrough_105 rfl ⟨by omega, by omega⟩ ⟨by omega, by omega⟩ (fun c105 => ?_) (fun c105 => absurd c105 (by omega))
    refine wp_iconst dX7_goesThrough_122 ?_
    refine wp_istore (L' := [some (vR 51), some (vI x), some (vI key), some (vI 1), some (vI (rLd g)), some (vI 0)]) dX7_goesThrough_123 (by decide) rfl ?_
    have d0 : ∀ c, 0 ≤ c ∧ c < 6 → ((ud (ud (ud (ud (ud (ud dO 0 0) 1 0) 2 0) 3 0) 4 0) 5 0)) c = 0 := fun c hc => by unfold ud; (repeat' split) <;> omega
    have hp1 : RPO h0 (((((((h.set 52 (oI 1014 g)).set 62 (oI 6 (ud dO 0 0))).set 62 (oI 6 (ud (ud dO 0 0) 1 0))).set 62 (oI 6 (ud (ud (ud dO 0 0) 1 0) 2 0))).set 62 (oI 6 (ud (ud (ud (ud dO 0 0) 1 0) 2 0) 3 0))).set 62 (oI 6 (ud (ud (ud (ud (ud dO 0 0) 1 0) 2 0) 3 0) 4 0))).set 62 (oI 6 (ud (ud (ud (ud (ud (ud dO 0 0) 1 0) 2 0) 3 0) 4 0) 5 0))) dn km ln at_ ft ik n t s l m un o ws (ud (ud (ud (ud (ud (ud dO 0 0) 1 0) 2 0) 3 0) 4 0) 5 0) fv g := ⟨by simp only [List.length_set]; exact s1, fun j q51 q52 q => by (repeat rw [List.getElem?_set_ne (by omega)]); exact s2 j q51 q52 q, (gs_ne (by decide) (gs_ne (by decide) (gs_ne (by decide) (gs_ne (by decide) (gs_ne (by decide) (gs_ne (by decide) (gs_ne (by decide) s51))))))), (gs_ne (by decide) (gs_ne (by decide) (gs_ne (by decide) (gs_ne (by decide) (gs_ne (by decide) (gs_ne (by decide) (gs_eq (gs_lt s52)))))))), (gs_ne (by decide) (gs_ne (by decide) (gs_ne (by decide) (gs_ne (by decide) (gs_ne (by decide) (gs_ne (by decide) (gs_ne (by decide) s60))))))), (gs_ne (by decide) (gs_ne (by decide) (gs_ne (by decide) (gs_ne (by decide) (gs_ne (by decide) (gs_ne (by decide) (gs_ne (by decide) s61))))))), (gs_eq (gs_l (gs_l (gs_l (gs_l (gs_l (gs_l (gs_lt s62)))))))), (gs_ne (by decide) (gs_ne (by decide) (gs_ne (by decide) (gs_ne (by decide) (gs_ne (by decide) (gs_ne (by decide) (gs_ne (by decide) s63)))))))⟩
    have ec : exR P o n.toNat 0 ((ud (ud (ud (ud (ud (ud dO 0 0) 1 0) 2 0) 3 0) 4 0) 5 0)) g = exR P o n.toNat 0 z0 g := exR_cong hO.2.1 n.toNat 0 _ _ g (by omega) (by omega) (fun c hc => d0 c hc)
    have ex := ex_eq hR hO n.toNat 0 ((ud (ud (ud (ud (ud (ud dO 0 0) 1 0) 2 0) 3 0) 4 0) 5 0)) f g B (by omega) (by omega) (don0 d0) hA hB (by omega)
    rw [ec] at ex
    refine lp_er h56 hR hO n.toNat 0 _ f g B _ (by omega) (by omega) (don0 d0) hA hB (by omega) hp1 (fun h1 dd1 hp2 => ?_)
    rw [ec] at hp2
    generalize exC K Fs S o n.toNat 0 ((ud (ud (ud (ud (ud (ud dO 0 0) 1 0) 2 0) 3 0) 4 0) 5 0)) f = fo at *
    generalize exR P o n.toNat 0 z0 g = go at *
    obtain ⟨u_1, u_2, u51, u52, u60, u61, u62, u63⟩ := id hp2
    have b1 := rLd_b ex
    have b0 := rLd_b hA
    have rL : r32 (rLd go - rLd g) := by unfold r32; omega
    have en := (ex.2.1.en (a := 0) (k := key) (by omega) hk).2.1
    refine wp_aload_n dX7_goesThrough_179 rfl ?_
    refine wp_iload_n dX7_goesThrough_180 rfl ?_
    refine wp_aload_n dX7_goesThrough_181 rfl ?_
    refine wp_iv0 dX7_goesThrough_182 VX7_loads lX7_281 u51 (rq0 rfl rfl) (Nat.le_of_ble_eq_true rfl) (C_rloads u51 u52 ?_)
    dsimp only [pushR]
    refine wp_iload dX7_goesThrough_185 rfl ?_
    refine wp_isub dX7_goesThrough_187 ?_
    refine wp_iv2 dX7_goesThrough_188 VX7_judges lX7_288 u51 (rq0 rfl rfl) (Nat.le_of_ble_eq_true rfl) (C_judges hp2 ex (by omega) (by omega) hk rL rl rm (by omega) hf (fun h2 hp3 => ?_))
    dsimp only [pushR]
    have eV : ((0 ≤ (if go 0 < go (eA 0 key) then go (eA 0 key + 1) else -1) ∧ fv (if go 0 < go (eA 0 key) then go (eA 0 key + 1) else -1) = 0)) ↔ (go 0 < go (eA 0 key) ∧ fv (go (eA 0 key + 1)) = 0) := by
      rcases Decidable.em (go 0 < go (eA 0 key)) with c | c
      · rw [if_pos c]; exact ⟨fun q => ⟨c, q.2⟩, fun q => ⟨en.1, q.2⟩⟩
      · rw [if_neg c]; exact ⟨fun q => absurd q.1 (by omega), fun q => absurd q.1 c⟩
    have hf2 : ∀ v, 0 ≤ v ∧ v < 1000 → (if 0 ≤ (if go 0 < go (eA 0 key) then go (eA 0 key + 1) else -1) ∧ fv (if go 0 < go (eA 0 key) then go (eA 0 key + 1) else -1) = 0 then ud fv (if go 0 < go (eA 0 key) then go (eA 0 key + 1) else -1) 1 else fv) v = 0 ∨ (if 0 ≤ (if go 0 < go (eA 0 key) then go (eA 0 key + 1) else -1) ∧ fv (if go 0 < go (eA 0 key) then go (eA 0 key + 1) else -1) = 0 then ud fv (if go 0 < go (eA 0 key) then go (eA 0 key + 1) else -1) 1 else fv) v = 1 := fun v hv => by
      have := hf v hv
      generalize (if go 0 < go (eA 0 key) then go (eA 0 key + 1) else -1) = V
      split
      · unfold ud; split <;> omega
      · exact this
    have eU : (if 0 ≤ (if go 0 < go (eA 0 key) then go (eA 0 key + 1) else -1) ∧ fv (if go 0 < go (eA 0 key) then go (eA 0 key + 1) else -1) = 0 then un + 1 else un) = if go 0 < go (eA 0 key) ∧ fv (go (eA 0 key + 1)) = 0 then un + 1 else un := by
      by_cases c : go 0 < go (eA 0 key) ∧ fv (go (eA 0 key + 1)) = 0
      · rw [if_pos c, if_pos (eV.mpr c)]
      · rw [if_neg c, if_neg (fun q => c (eV.mp q))]
    have eF : (if 0 ≤ (if go 0 < go (eA 0 key) then go (eA 0 key + 1) else -1) ∧ fv (if go 0 < go (eA 0 key) then go (eA 0 key + 1) else -1) = 0 then ud fv (if go 0 < go (eA 0 key) then go (eA 0 key + 1) else -1) 1 else fv) = if go 0 < go (eA 0 key) ∧ fv (go (eA 0 key + 1)) = 0 then ud fv (go (eA 0 key + 1)) 1 else fv := by
      by_cases c : go 0 < go (eA 0 key) ∧ fv (go (eA 0 key + 1)) = 0
      · rw [if_pos c, if_pos (eV.mpr c), if_pos c.1]
      · rw [if_neg c, if_neg (fun q => c (eV.mp q))]
    rw [eU, eF] at hQ
    rw [eF] at hf2
    obtain ⟨v_1, v_2, v51, v52, v60, v61, v62, v63⟩ := id hp3
    refine wp_aload_n dX7_goesThrough_191 rfl ?_
    refine wp_iv0 dX7_goesThrough_192 VX7_nextOrder lX7_291 v51 (rq0 rfl rfl) (Nat.le_of_ble_eq_true rfl) (sa_of v60 (C_rnext v51 v60 (by omega) (fun i a d => by have := (hO.2.1 i ⟨a, d⟩).1; unfold r32; omega) (fun ri => ?_) (fun ri => ?_)))
    · dsimp only [pushR]
      rw [set_same v60]
      refine wp_istore_n (L' := [some (vR 51), some (vI x), some (vI key), some (vI 0), some (vI (rLd g)), some (vI n)]) dX7_goesThrough_195 (by decide) rfl ?_
      refine wp_goto 72 dX7_goesThrough_196 rfl ?_
      refine wp_iload_n dX7_goesThrough_72 rfl ?_
      refine wp_if_eq 199 dX7_goesThrough_73 rfl ⟨by omega, by omega⟩ (fun c73 => ?_) (fun c73 => absurd c73 (by omega))
      rw [if_pos ri] at hQ
      exact hQ _ _ _ _ _ _ _ ex.2.2.2 hp3
    · dsimp only [pushR]
      refine wp_istore_n (L' := [some (vR 51), some (vI x), some (vI key), some (vI 1), some (vI (rLd g)), some (vI n)]) dX7_goesThrough_195 (by decide) rfl ?_
      refine wp_goto 72 dX7_goesThrough_196 rfl ?_
      rw [if_neg (by omega)] at hQ
      have nl := nx_lt hw h3 hn.1 ri hO.2.1
      have hp4 : RPO h0 (h2.set 60 (oI 8 (nxO o n))) dn km ln at_ ft ik n (t + 1) _ _ _ _ (nxO o n) _ _ _ _ := ⟨by simp only [List.length_set]; exact v_1, fun j q51 q52 q => by (repeat rw [List.getElem?_set_ne (by omega)]); exact v_2 j q51 q52 q, gs_ne (by decide) v51, gs_ne (by decide) v52, gs_eq (gs_lt v60), gs_ne (by decide) v61, gs_ne (by decide) v62, gs_ne (by decide) v63⟩
      exact ih (nxO o n) _ _ _ _ _ _ _ _ _ _ _ _ (by omega) (hO.nx hw ri) (by split <;> omega) (by unfold mnI; split <;> assumption) (by unfold mxI; split <;> assumption) ex.2.2.2 hf2 hp4 hQ
end GR_
