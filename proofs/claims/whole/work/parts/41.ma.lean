/-! the reference: its acts -/
section MA
variable {X : XS} {h : AH} {Q : Option AV → AH → Prop} {p q : Nat} {g : Int → Int}
/-- the last write of a key among the first n: the loop's own steps -/
def lastL (g : Int → Int) (k : Int) : Nat → Int → Int
  | 0, n => n
  | m + 1, n => if n ≤ 0 then n else if g (36 + 3 * (n - 1)) = k then n else lastL g k m (n + (-1))
set_option maxHeartbeats 1000000 in
theorem lp_lastOf {k n : Int} {b : Nat × Nat} (hS : SA 7 p q h) (hR : ∀ j, r32 (g j)) (hk : r32 k) : ∀ (m : Nat) (z : Int), z ≤ m → z ≤ 60 → 0 ≤ z → Q (some (vI (lastL g k m z))) (h.set q (oI 1014 g)) → Wp X kX7_lastOf 2 [some (vR p), some (vI k), some (vI n), some (vI z)] [] (h.set q (oI 1014 g)) b Q := by
  intro m
  induction m with
  | zero =>
    intro z h1 h2 h3 hQ
    have e : z = 0 := by omega
    subst e
    refine wp_iload_n dX7_lastOf_2 rfl ?_
    refine wp_if_le 21 dX7_lastOf_3 rfl ⟨by omega, by omega⟩ (fun c3 => ?_) (fun c3 => absurd (Int.le_refl 0) c3)
    refine wp_iload_n dX7_lastOf_21 rfl ?_
    exact wp_iret dX7_lastOf_22 rfl hQ
  | succ m ih =>
    intro z h1 h2 h3 hQ
    refine wp_iload_n dX7_lastOf_2 rfl ?_
    refine wp_if_le 21 dX7_lastOf_3 rfl (by first | assumption | exact hR _ | exact bI_r _ | exact r32_1 hB hBB _ | exact r32_2 hB hBB _ _ | (unfold r32; omega)) (fun c3 => ?_) (fun c3 => ?_)
    · refine wp_iload_n dX7_lastOf_21 rfl ?_
      exact wp_iret dX7_lastOf_22 rfl (by simp only [lastL] at hQ; (repeat' split at hQ) <;> first | (exfalso; omega) | exact hQ)
    · refine wp_aload_n dX7_lastOf_6 rfl ?_
      refine wp_iload_n dX7_lastOf_7 rfl ?_
      refine sa_i1 hS dX7_lastOf_8 VX7_keyOf lX7_102 (rq0 rfl rfl) (Nat.le_of_ble_eq_true rfl) (C_keyOf hS (by omega) rfl ?_)
      dsimp only [pushR]
      refine wp_iload_n dX7_lastOf_11 rfl ?_
      refine wp_icmp_eq 21 dX7_lastOf_12 rfl (by first | assumption | exact hR _ | exact bI_r _ | exact r32_1 hB hBB _ | exact r32_2 hB hBB _ _ | (unfold r32; omega)) (by first | assumption | exact hR _ | exact bI_r _ | exact r32_1 hB hBB _ | exact r32_2 hB hBB _ _ | (unfold r32; omega)) (fun c12 => ?_) (fun c12 => ?_)
      · refine wp_iload_n dX7_lastOf_21 rfl ?_
        exact wp_iret dX7_lastOf_22 rfl (by simp only [lastL] at hQ; (repeat' split at hQ) <;> first | (exfalso; omega) | exact hQ)
      · refine wp_iinc (L' := [some (vR p), some (vI k), some (vI n), some (vI (z + (-1)))]) dX7_lastOf_15 rfl rfl ?_
        refine wp_goto 2 dX7_lastOf_18 rfl ?_
        exact ih (z + -1) (by omega) (by omega) (by omega) (by simp only [lastL] at hQ; (repeat' split at hQ) <;> first | (exfalso; omega) | exact hQ)
def lastI (g : Int → Int) (k n : Int) : Int := lastL g k 60 n
set_option maxHeartbeats 1000000 in
theorem C_lastOf {k n : Int} (hS : SA 7 p q h) (hR : ∀ j, r32 (g j)) (hk : r32 k) (hn : 0 ≤ n ∧ n ≤ 60) (hQ : Q (some (vI (lastI g k n))) (h.set q (oI 1014 g))) : Cl X kX7_lastOf [vR p, vI k, vI n] (h.set q (oI 1014 g)) Q := by
  refine cl_of rfl (Nat.le_of_ble_eq_true rfl) rfl ?_
  refine wp_iload_n dX7_lastOf_0 rfl ?_
  refine wp_istore_n (L' := [some (vR p), some (vI k), some (vI n), some (vI n)]) dX7_lastOf_1 (by decide) rfl ?_
  exact lp_lastOf hS hR hk 60 n (by omega) (by omega) hn.1 hQ
def svO (g : Int → Int) (r k : Int) : Int := lastI g k (if r = 0 then g 2 else g (10 + r))
set_option maxHeartbeats 1000000 in
theorem C_storeVersion {r k : Int} (hS : SA 7 p q h) (hR : ∀ j, r32 (g j)) (hr : 0 ≤ r ∧ r < 3) (hk : r32 k) (hm : 0 ≤ g 2 ∧ g 2 ≤ 60) (hp : 0 ≤ g (10 + r) ∧ g (10 + r) ≤ 60) (hQ : Q (some (vI (svO g r k))) (h.set q (oI 1014 g))) : Cl X kX7_storeVersion [vR p, vI r, vI k] (h.set q (oI 1014 g)) Q := by
  refine cl_of rfl (Nat.le_of_ble_eq_true rfl) rfl ?_
  refine wp_aload_n dX7_storeVersion_0 rfl ?_
  refine wp_iload_n dX7_storeVersion_1 rfl ?_
  refine wp_iload_n dX7_storeVersion_2 rfl ?_
  refine wp_if_ne 15 dX7_storeVersion_3 rfl (by first | assumption | exact hR _ | exact bI_r _ | exact r32_1 hB hBB _ | exact r32_2 hB hBB _ _ | (unfold r32; omega)) (fun c3 => ?_) (fun c3 => ?_)
  · refine wp_aload_n dX7_storeVersion_15 rfl ?_
    refine sa_get hS dX7_storeVersion_16 fX7_9 ?_
    refine wp_bipush dX7_storeVersion_19 rfl ?_
    refine wp_iload_n dX7_storeVersion_21 rfl ?_
    refine wp_iadd dX7_storeVersion_22 ?_
    refine sa_ld (v := g (10 + r)) hS dX7_storeVersion_23 (by decide) (by omega) rfl ?_
    refine sa_i2 hS dX7_storeVersion_24 VX7_lastOf lX7_105 (rq0 rfl rfl) (Nat.le_of_ble_eq_true rfl) (C_lastOf hS hR hk (by omega) ?_)
    dsimp only [pushR]
    exact wp_iret dX7_storeVersion_27 rfl (by simp only [svO] at hQ; (repeat' split at hQ) <;> first | (exfalso; omega) | exact hQ)
  · refine wp_aload_n dX7_storeVersion_6 rfl ?_
    refine sa_get hS dX7_storeVersion_7 fX7_9 ?_
    refine wp_iconst dX7_storeVersion_10 ?_
    refine sa_ld (v := g 2) hS dX7_storeVersion_11 (by decide) (by omega) rfl ?_
    refine wp_goto 24 dX7_storeVersion_12 rfl ?_
    refine sa_i2 hS dX7_storeVersion_24 VX7_lastOf lX7_105 (rq0 rfl rfl) (Nat.le_of_ble_eq_true rfl) (C_lastOf hS hR hk (by omega) ?_)
    dsimp only [pushR]
    exact wp_iret dX7_storeVersion_27 rfl (by simp only [svO] at hQ; (repeat' split at hQ) <;> first | (exfalso; omega) | exact hQ)
/-- entries that are there: the loop's own steps -/
def entL' (g : Int → Int) (a : Int) : Nat → Int → Int → Int
  | 0, _, n => n
  | m + 1, k, n => if g 0 < g (eA a k) then entL' g a m (k + 1) (n + 1) else entL' g a m (k + 1) (n + 0)
def entN (g : Int → Int) (a : Int) : Int := entL' g a 10 0 0
set_option maxHeartbeats 1000000 in
theorem lp_entriesIn {a : Int} {b : Nat × Nat} (hS : SA 7 p q h) (hR : ∀ j, r32 (g j)) (ha : 0 ≤ a ∧ a < 6) : ∀ (m : Nat) (k n : Int), k + m = 10 → 0 ≤ k → Q (some (vI (entL' g a m k n))) (h.set q (oI 1014 g)) → Wp X kX7_entriesIn 4 [some (vR p), some (vI a), some (vI n), some (vI k)] [] (h.set q (oI 1014 g)) b Q := by
  intro m
  induction m with
  | zero =>
    intro k n h1 h3 hQ
    refine wp_iload_n dX7_entriesIn_4 rfl ?_
    refine wp_bipush dX7_entriesIn_5 rfl ?_
    refine wp_icmp_ge 36 dX7_entriesIn_7 rfl ⟨by omega, by omega⟩ ⟨by omega, by omega⟩ (fun c7 => ?_) (fun c7 => absurd (by omega) c7)
    refine wp_iload_n dX7_entriesIn_36 rfl ?_
    exact wp_iret dX7_entriesIn_37 rfl hQ
  | succ m ih =>
    intro k n h1 h3 hQ
    rcases Decidable.em (10 ≤ k) with hk9 | hk9
    · omega
    have he := eA_b (k := k) ha ⟨h3, by omega⟩
    refine wp_iload_n dX7_entriesIn_4 rfl ?_
    refine wp_bipush dX7_entriesIn_5 rfl ?_
    refine wp_icmp_ge 36 dX7_entriesIn_7 rfl (by first | assumption | exact hR _ | exact bI_r _ | exact r32_1 hB hBB _ | exact r32_2 hB hBB _ _ | (unfold r32; omega)) ⟨by omega, by omega⟩ (fun c7 => ?_) (fun c7 => ?_)
    · exact absurd c7 (by omega)
    · refine wp_iload_n dX7_entriesIn_10 rfl ?_
      refine wp_aload_n dX7_entriesIn_11 rfl ?_
      refine wp_iload_n dX7_entriesIn_12 rfl ?_
      refine wp_iload_n dX7_entriesIn_13 rfl ?_
      refine wp_is2 dX7_entriesIn_14 SX7_entryAt lX7_112 (rq0 rfl rfl) (Nat.le_of_ble_eq_true rfl) (C_entryAt ?_)
      dsimp only [pushR]
      refine sa_i1 hS dX7_entriesIn_17 VX7_isThere lX7_115 (rq0 rfl rfl) (Nat.le_of_ble_eq_true rfl) (C_isThere (v0 := g 0) (v1 := g (eA a k)) hS (by omega) rfl rfl (by first | assumption | exact hR _ | exact bI_r _ | exact r32_1 hB hBB _ | exact r32_2 hB hBB _ _ | (unfold r32; omega)) (by first | assumption | exact hR _ | exact bI_r _ | exact r32_1 hB hBB _ | exact r32_2 hB hBB _ _ | (unfold r32; omega)) ?_)
      dsimp only [pushR]
      refine wp_beq 27 dX7_entriesIn_20 rfl (fun c20 => ?_) (fun c20 => ?_)
      · refine wp_iconst dX7_entriesIn_27 ?_
        refine wp_iadd dX7_entriesIn_28 ?_
        refine wp_istore_n (L' := [some (vR p), some (vI a), some (vI (n + 0)), some (vI k)]) dX7_entriesIn_29 (by decide) rfl ?_
        refine wp_iinc (L' := [some (vR p), some (vI a), some (vI (n + 0)), some (vI (k + 1))]) dX7_entriesIn_30 rfl rfl ?_
        refine wp_goto 4 dX7_entriesIn_33 rfl ?_
        exact ih _ _ (by omega) (by omega) (by simp only [entL'] at hQ; (repeat' split at hQ) <;> first | (exfalso; omega) | exact hQ)
      · refine wp_iconst dX7_entriesIn_23 ?_
        refine wp_goto 28 dX7_entriesIn_24 rfl ?_
        refine wp_iadd dX7_entriesIn_28 ?_
        refine wp_istore_n (L' := [some (vR p), some (vI a), some (vI (n + 1)), some (vI k)]) dX7_entriesIn_29 (by decide) rfl ?_
        refine wp_iinc (L' := [some (vR p), some (vI a), some (vI (n + 1)), some (vI (k + 1))]) dX7_entriesIn_30 rfl rfl ?_
        refine wp_goto 4 dX7_entriesIn_33 rfl ?_
        exact ih _ _ (by omega) (by omega) (by simp only [entL'] at hQ; (repeat' split at hQ) <;> first | (exfalso; omega) | exact hQ)
set_option maxHeartbeats 1000000 in
theorem C_entriesIn {a : Int} (hS : SA 7 p q h) (hR : ∀ j, r32 (g j)) (ha : 0 ≤ a ∧ a < 6) (hQ : Q (some (vI (entN g a))) (h.set q (oI 1014 g))) : Cl X kX7_entriesIn [vR p, vI a] (h.set q (oI 1014 g)) Q := by
  refine cl_of rfl (Nat.le_of_ble_eq_true rfl) rfl ?_
  refine wp_iconst dX7_entriesIn_0 ?_
  refine wp_istore_n (L' := [some (vR p), some (vI a), some (vI 0), none]) dX7_entriesIn_1 (by decide) rfl ?_
  refine wp_iconst dX7_entriesIn_2 ?_
  refine wp_istore_n (L' := [some (vR p), some (vI a), some (vI 0), some (vI 0)]) dX7_entriesIn_3 (by decide) rfl ?_
  exact lp_entriesIn hS hR ha 10 0 0 rfl (Int.le_refl 0) hQ
def leastL (g : Int → Int) (a y : Int) : Nat → Int → Int → Int
  | 0, _, z => z
  | m + 1, k, z => if g 0 < g (eA a k) then (if z = -1 then leastL g a y m (k + 1) k else if g (eA a k + y) < g (eA a z + y) then leastL g a y m (k + 1) k else leastL g a y m (k + 1) z) else leastL g a y m (k + 1) z
def polB (t : Int) : Int := if t = 0 then 4 else if t = 1 then 5 else if t = 2 then 3 else 2
def leastO (g : Int → Int) (a t : Int) : Int := leastL g a (polB t) 10 0 (-1)
set_option maxHeartbeats 2000000 in
theorem lp_leastIn {a t y : Int} {b : Nat × Nat} (hS : SA 7 p q h) (hR : ∀ j, r32 (g j)) (ha : 0 ≤ a ∧ a < 6) (hy : 0 ≤ y ∧ y < 6) : ∀ (m : Nat) (k z : Int), k + m = 10 → 0 ≤ k → (z = -1 ∨ 0 ≤ z ∧ z < 10) → Q (some (vI (leastL g a y m k z))) (h.set q (oI 1014 g)) → Wp X kX7_leastIn 34 [some (vR p), some (vI a), some (vI t), some (vI z), some (vI y), some (vI k)] [] (h.set q (oI 1014 g)) b Q := by
  intro m
  induction m with
  | zero =>
    intro k z h1 h3 h4 hQ
    refine wp_iload dX7_leastIn_34 rfl ?_
    refine wp_bipush dX7_leastIn_36 rfl ?_
    refine wp_icmp_ge 98 dX7_leastIn_38 rfl ⟨by omega, by omega⟩ ⟨by omega, by omega⟩ (fun c7 => ?_) (fun c7 => absurd (by omega) c7)
    refine wp_iload_n dX7_leastIn_98 rfl ?_
    exact wp_iret dX7_leastIn_99 rfl hQ
  | succ m ih =>
    intro k z h1 h3 h4 hQ
    have he := eA_b (k := k) ha ⟨h3, by omega⟩
    have hz : 0 ≤ z → 222 ≤ eA a z ∧ eA a z + 6 ≤ 582 := fun q => eA_b (k := z) ha ⟨q, by omega⟩
    have hz2 : z ≠ -1 → 222 ≤ eA a z ∧ eA a z + 6 ≤ 582 := fun q => hz (by omega)
    refine wp_iload dX7_leastIn_34 rfl ?_
    refine wp_bipush dX7_leastIn_36 rfl ?_
    refine wp_icmp_ge 98 dX7_leastIn_38 rfl (by first | assumption | exact hR _ | exact bI_r _ | exact r32_1 hB hBB _ | exact r32_2 hB hBB _ _ | (unfold r32; omega)) ⟨by omega, by omega⟩ (fun c38 => ?_) (fun c38 => ?_)
    · exact absurd c38 (by omega)
    · refine wp_aload_n dX7_leastIn_41 rfl ?_
      refine wp_iload_n dX7_leastIn_42 rfl ?_
      refine wp_iload dX7_leastIn_43 rfl ?_
      refine wp_is2 dX7_leastIn_45 SX7_entryAt lX7_112 (rq0 rfl rfl) (Nat.le_of_ble_eq_true rfl) (C_entryAt ?_)
      dsimp only [pushR]
      refine sa_i1 hS dX7_leastIn_48 VX7_isThere lX7_115 (rq0 rfl rfl) (Nat.le_of_ble_eq_true rfl) (C_isThere (v0 := g 0) (v1 := g (eA a k)) hS (by omega) rfl rfl (by first | assumption | exact hR _ | exact bI_r _ | exact r32_1 hB hBB _ | exact r32_2 hB hBB _ _ | (unfold r32; omega)) (by first | assumption | exact hR _ | exact bI_r _ | exact r32_1 hB hBB _ | exact r32_2 hB hBB _ _ | (unfold r32; omega)) ?_)
      dsimp only [pushR]
      refine wp_beq 92 dX7_leastIn_51 rfl (fun c51 => ?_) (fun c51 => ?_)
      · refine wp_iinc (L' := [some (vR p), some (vI a), some (vI t), some (vI z), some (vI y), some (vI (k + 1))]) dX7_leastIn_92 rfl rfl ?_
        refine wp_goto 34 dX7_leastIn_95 rfl ?_
        exact ih _ _ (by omega) (by omega) (by omega) (by simp only [leastL] at hQ; (repeat' split at hQ) <;> first | (exfalso; omega) | exact hQ)
      · refine wp_iload_n dX7_leastIn_54 rfl ?_
        refine wp_iconst dX7_leastIn_55 ?_
        refine wp_icmp_eq 89 dX7_leastIn_56 rfl (by first | assumption | exact hR _ | exact bI_r _ | exact r32_1 hB hBB _ | exact r32_2 hB hBB _ _ | (unfold r32; omega)) ⟨by omega, by omega⟩ (fun c56 => ?_) (fun c56 => ?_)
        · refine wp_iload dX7_leastIn_89 rfl ?_
          refine wp_istore_n (L' := [some (vR p), some (vI a), some (vI t), some (vI k), some (vI y), some (vI k)]) dX7_leastIn_91 (by decide) rfl ?_
          refine wp_iinc (L' := [some (vR p), some (vI a), some (vI t), some (vI k), some (vI y), some (vI (k + 1))]) dX7_leastIn_92 rfl rfl ?_
          refine wp_goto 34 dX7_leastIn_95 rfl ?_
          exact ih _ _ (by omega) (by omega) (by omega) (by simp only [leastL] at hQ; (repeat' split at hQ) <;> first | (exfalso; omega) | exact hQ)
        · refine wp_aload_n dX7_leastIn_59 rfl ?_
          refine sa_get hS dX7_leastIn_60 fX7_9 ?_
          refine wp_iload_n dX7_leastIn_63 rfl ?_
          refine wp_iload dX7_leastIn_64 rfl ?_
          refine wp_is2 dX7_leastIn_66 SX7_entryAt lX7_112 (rq0 rfl rfl) (Nat.le_of_ble_eq_true rfl) (C_entryAt ?_)
          dsimp only [pushR]
          refine wp_iload dX7_leastIn_69 rfl ?_
          refine wp_iadd dX7_leastIn_71 ?_
          refine sa_ld (v := g (eA a k + y)) hS dX7_leastIn_72 (by decide) (by first | omega | (have := hz2 (by omega); omega)) rfl ?_
          refine wp_aload_n dX7_leastIn_73 rfl ?_
          refine sa_get hS dX7_leastIn_74 fX7_9 ?_
          refine wp_iload_n dX7_leastIn_77 rfl ?_
          refine wp_iload_n dX7_leastIn_78 rfl ?_
          refine wp_is2 dX7_leastIn_79 SX7_entryAt lX7_112 (rq0 rfl rfl) (Nat.le_of_ble_eq_true rfl) (C_entryAt ?_)
          dsimp only [pushR]
          refine wp_iload dX7_leastIn_82 rfl ?_
          refine wp_iadd dX7_leastIn_84 ?_
          refine sa_ld (v := g (eA a z + y)) hS dX7_leastIn_85 (by decide) (by first | omega | (have := hz2 (by omega); omega)) rfl ?_
          refine wp_icmp_ge 92 dX7_leastIn_86 rfl (by first | assumption | exact hR _ | exact bI_r _ | exact r32_1 hB hBB _ | exact r32_2 hB hBB _ _ | (unfold r32; omega)) (by first | assumption | exact hR _ | exact bI_r _ | exact r32_1 hB hBB _ | exact r32_2 hB hBB _ _ | (unfold r32; omega)) (fun c86 => ?_) (fun c86 => ?_)
          · refine wp_iinc (L' := [some (vR p), some (vI a), some (vI t), some (vI z), some (vI y), some (vI (k + 1))]) dX7_leastIn_92 rfl rfl ?_
            refine wp_goto 34 dX7_leastIn_95 rfl ?_
            exact ih _ _ (by omega) (by omega) (by omega) (by simp only [leastL] at hQ; (repeat' split at hQ) <;> first | (exfalso; omega) | exact hQ)
          · refine wp_iload dX7_leastIn_89 rfl ?_
            refine wp_istore_n (L' := [some (vR p), some (vI a), some (vI t), some (vI k), some (vI y), some (vI k)]) dX7_leastIn_91 (by decide) rfl ?_
            refine wp_iinc (L' := [some (vR p), some (vI a), some (vI t), some (vI k), some (vI y), some (vI (k + 1))]) dX7_leastIn_92 rfl rfl ?_
            refine wp_goto 34 dX7_leastIn_95 rfl ?_
            exact ih _ _ (by omega) (by omega) (by omega) (by simp only [leastL] at hQ; (repeat' split at hQ) <;> first | (exfalso; omega) | exact hQ)
set_option maxHeartbeats 1000000 in
theorem C_leastIn {a t : Int} (hS : SA 7 p q h) (hR : ∀ j, r32 (g j)) (ha : 0 ≤ a ∧ a < 6) (ht : r32 t) (hQ : Q (some (vI (leastO g a t))) (h.set q (oI 1014 g))) : Cl X kX7_leastIn [vR p, vI a, vI t] (h.set q (oI 1014 g)) Q := by
  refine cl_of rfl (Nat.le_of_ble_eq_true rfl) rfl ?_
  refine wp_iconst dX7_leastIn_0 ?_
  refine wp_istore_n (L' := [some (vR p), some (vI a), some (vI t), some (vI (-1)), none, none]) dX7_leastIn_1 (by decide) rfl ?_
  refine wp_iload_n dX7_leastIn_2 rfl ?_
  refine wp_if_ne 10 dX7_leastIn_3 rfl (by first | assumption | exact hR _ | exact bI_r _ | exact r32_1 hB hBB _ | exact r32_2 hB hBB _ _ | (unfold r32; omega)) (fun c3 => ?_) (fun c3 => ?_)
  · refine wp_iload_n dX7_leastIn_10 rfl ?_
    refine wp_iconst dX7_leastIn_11 ?_
    refine wp_icmp_ne 19 dX7_leastIn_12 rfl (by first | assumption | exact hR _ | exact bI_r _ | exact r32_1 hB hBB _ | exact r32_2 hB hBB _ _ | (unfold r32; omega)) ⟨by omega, by omega⟩ (fun c12 => ?_) (fun c12 => ?_)
    · refine wp_iload_n dX7_leastIn_19 rfl ?_
      refine wp_iconst dX7_leastIn_20 ?_
      refine wp_icmp_ne 28 dX7_leastIn_21 rfl (by first | assumption | exact hR _ | exact bI_r _ | exact r32_1 hB hBB _ | exact r32_2 hB hBB _ _ | (unfold r32; omega)) ⟨by omega, by omega⟩ (fun c21 => ?_) (fun c21 => ?_)
      · refine wp_iconst dX7_leastIn_28 ?_
        refine wp_istore (L' := [some (vR p), some (vI a), some (vI t), some (vI (-1)), some (vI 2), none]) dX7_leastIn_29 (by decide) rfl ?_
        refine wp_iconst dX7_leastIn_31 ?_
        refine wp_istore (L' := [some (vR p), some (vI a), some (vI t), some (vI (-1)), some (vI 2), some (vI 0)]) dX7_leastIn_32 (by decide) rfl ?_
        exact lp_leastIn hS hR ha (by omega) 10 0 (-1) rfl (Int.le_refl 0) (Or.inl rfl) (by simp only [leastO, polB] at hQ; (repeat' split at hQ) <;> first | (exfalso; omega) | exact hQ)
      · refine wp_iconst dX7_leastIn_24 ?_
        refine wp_goto 29 dX7_leastIn_25 rfl ?_
        refine wp_istore (L' := [some (vR p), some (vI a), some (vI t), some (vI (-1)), some (vI 3), none]) dX7_leastIn_29 (by decide) rfl ?_
        refine wp_iconst dX7_leastIn_31 ?_
        refine wp_istore (L' := [some (vR p), some (vI a), some (vI t), some (vI (-1)), some (vI 3), some (vI 0)]) dX7_leastIn_32 (by decide) rfl ?_
        exact lp_leastIn hS hR ha (by omega) 10 0 (-1) rfl (Int.le_refl 0) (Or.inl rfl) (by simp only [leastO, polB] at hQ; (repeat' split at hQ) <;> first | (exfalso; omega) | exact hQ)
    · refine wp_iconst dX7_leastIn_15 ?_
      refine wp_goto 29 dX7_leastIn_16 rfl ?_
      refine wp_istore (L' := [some (vR p), some (vI a), some (vI t), some (vI (-1)), some (vI 5), none]) dX7_leastIn_29 (by decide) rfl ?_
      refine wp_iconst dX7_leastIn_31 ?_
      refine wp_istore (L' := [some (vR p), some (vI a), some (vI t), some (vI (-1)), some (vI 5), some (vI 0)]) dX7_leastIn_32 (by decide) rfl ?_
      exact lp_leastIn hS hR ha (by omega) 10 0 (-1) rfl (Int.le_refl 0) (Or.inl rfl) (by simp only [leastO, polB] at hQ; (repeat' split at hQ) <;> first | (exfalso; omega) | exact hQ)
  · refine wp_iconst dX7_leastIn_6 ?_
    refine wp_goto 29 dX7_leastIn_7 rfl ?_
    refine wp_istore (L' := [some (vR p), some (vI a), some (vI t), some (vI (-1)), some (vI 4), none]) dX7_leastIn_29 (by decide) rfl ?_
    refine wp_iconst dX7_leastIn_31 ?_
    refine wp_istore (L' := [some (vR p), some (vI a), some (vI t), some (vI (-1)), some (vI 4), some (vI 0)]) dX7_leastIn_32 (by decide) rfl ?_
    exact lp_leastIn hS hR ha (by omega) 10 0 (-1) rfl (Int.le_refl 0) (Or.inl rfl) (by simp only [leastO, polB] at hQ; (repeat' split at hQ) <;> first | (exfalso; omega) | exact hQ)
end MA
