/-! the reference: places in its row, what its small methods answer -/
def hA (c : Int) : Int := 972 + 7 * c
def eA (g k : Int) : Int := 222 + 6 * (10 * g + k)
def oA (g k : Int) : Int := 582 + 2 * (10 * g + k)
def lA (g k : Int) : Int := 702 + 3 * (10 * g + k)
def dA (g k : Int) : Int := 882 + 10 * g + k
section ML
variable {X : XS} {h : AH} {Q : Option AV → AH → Prop} {p q : Nat} {g : Int → Int}
theorem hA_b {c : Int} (h : 0 ≤ c ∧ c < 6) : 972 ≤ hA c ∧ hA c + 7 ≤ 1014 := by unfold hA; omega
theorem eA_b {g k : Int} (h : 0 ≤ g ∧ g < 6) (h2 : 0 ≤ k ∧ k < 10) : 222 ≤ eA g k ∧ eA g k + 6 ≤ 582 := by unfold eA; omega
theorem oA_b {g k : Int} (h : 0 ≤ g ∧ g < 6) (h2 : 0 ≤ k ∧ k < 10) : 582 ≤ oA g k ∧ oA g k + 2 ≤ 702 := by unfold oA; omega
theorem lA_b {g k : Int} (h : 0 ≤ g ∧ g < 6) (h2 : 0 ≤ k ∧ k < 10) : 702 ≤ lA g k ∧ lA g k + 3 ≤ 882 := by unfold lA; omega
theorem dA_b {g k : Int} (h : 0 ≤ g ∧ g < 6) (h2 : 0 ≤ k ∧ k < 10) : 882 ≤ dA g k ∧ dA g k + 1 ≤ 942 := by unfold dA; omega
set_option maxHeartbeats 1000000 in
theorem C_in {v l m : Int} (hv : r64 v) (hl : r64 l) (hm : r64 m) (hQ : Q (some (vI (bI (l ≤ v ∧ v ≤ m)))) h) : Cl X kX7_in [vL v, vL l, vL m] h Q := by
  refine cl_of rfl (Nat.le_of_ble_eq_true rfl) rfl ?_
  refine wp_lload_n dX7_in_0 rfl ?_
  refine wp_lload_n dX7_in_1 rfl ?_
  refine wp_lc_lt 17 dX7_in_2 dX7_in_3 rfl (by assumption) (by assumption) (fun c3 => ?_) (fun c3 => ?_)
  · refine wp_iconst dX7_in_17 ?_
    exact wp_zret dX7_in_18 rfl (Or.inl rfl) (by first | (rw [bI_t (by omega)] at hQ; exact hQ) | (rw [bI_f (by omega)] at hQ; exact hQ))
  · refine wp_lload_n dX7_in_6 rfl ?_
    refine wp_lload dX7_in_7 rfl ?_
    refine wp_lc_gt 17 dX7_in_9 dX7_in_10 rfl (by assumption) (by assumption) (fun c10 => ?_) (fun c10 => ?_)
    · refine wp_iconst dX7_in_17 ?_
      exact wp_zret dX7_in_18 rfl (Or.inl rfl) (by first | (rw [bI_t (by omega)] at hQ; exact hQ) | (rw [bI_f (by omega)] at hQ; exact hQ))
    · refine wp_iconst dX7_in_13 ?_
      refine wp_goto 18 dX7_in_14 rfl ?_
      exact wp_zret dX7_in_18 rfl (Or.inr rfl) (by first | (rw [bI_t (by omega)] at hQ; exact hQ) | (rw [bI_f (by omega)] at hQ; exact hQ))
set_option maxHeartbeats 1000000 in
theorem C_isClient {v : Int} (hv : r32 v) (hQ : Q (some (vI (bI (0 ≤ v ∧ v ≤ 5)))) h) : Cl X kX7_isClient [vI v] h Q := by
  refine cl_of rfl (Nat.le_of_ble_eq_true rfl) rfl ?_
  refine wp_iload_n dX7_isClient_0 rfl ?_
  refine wp_i2l dX7_isClient_1 hv ?_
  refine wp_lconst (z := 0) dX7_isClient_2 rfl ?_
  refine wp_ldc2 dX7_isClient_3 cX7_92 ?_
  refine wp_is3 dX7_isClient_6 SX7_in lX7_94 (rq0 rfl rfl) (Nat.le_of_ble_eq_true rfl) (C_in (by unfold r32 r64 at *; omega) (by unfold r64; omega) (by unfold r64; omega) ?_)
  dsimp only [pushR]
  exact wp_zret dX7_isClient_9 rfl (bI_01 _) hQ
set_option maxHeartbeats 1000000 in
theorem C_isGroup {v : Int} (hv : r32 v) (hQ : Q (some (vI (bI (0 ≤ v ∧ v ≤ 5)))) h) : Cl X kX7_isGroup [vI v] h Q := by
  refine cl_of rfl (Nat.le_of_ble_eq_true rfl) rfl ?_
  refine wp_iload_n dX7_isGroup_0 rfl ?_
  refine wp_i2l dX7_isGroup_1 hv ?_
  refine wp_lconst (z := 0) dX7_isGroup_2 rfl ?_
  refine wp_ldc2 dX7_isGroup_3 cX7_92 ?_
  refine wp_is3 dX7_isGroup_6 SX7_in lX7_94 (rq0 rfl rfl) (Nat.le_of_ble_eq_true rfl) (C_in (by unfold r32 r64 at *; omega) (by unfold r64; omega) (by unfold r64; omega) ?_)
  dsimp only [pushR]
  exact wp_zret dX7_isGroup_9 rfl (bI_01 _) hQ
set_option maxHeartbeats 1000000 in
theorem C_isKey {v : Int} (hv : r32 v) (hQ : Q (some (vI (bI (0 ≤ v ∧ v ≤ 9)))) h) : Cl X kX7_isKey [vI v] h Q := by
  refine cl_of rfl (Nat.le_of_ble_eq_true rfl) rfl ?_
  refine wp_iload_n dX7_isKey_0 rfl ?_
  refine wp_i2l dX7_isKey_1 hv ?_
  refine wp_lconst (z := 0) dX7_isKey_2 rfl ?_
  refine wp_ldc2 dX7_isKey_3 cX7_98 ?_
  refine wp_is3 dX7_isKey_6 SX7_in lX7_94 (rq0 rfl rfl) (Nat.le_of_ble_eq_true rfl) (C_in (by unfold r32 r64 at *; omega) (by unfold r64; omega) (by unfold r64; omega) ?_)
  dsimp only [pushR]
  exact wp_zret dX7_isKey_9 rfl (bI_01 _) hQ
set_option maxHeartbeats 1000000 in
theorem C_isRegion {v : Int} (hv : r32 v) (hQ : Q (some (vI (bI (0 ≤ v ∧ v ≤ 2)))) h) : Cl X kX7_isRegion [vI v] h Q := by
  refine cl_of rfl (Nat.le_of_ble_eq_true rfl) rfl ?_
  refine wp_iload_n dX7_isRegion_0 rfl ?_
  refine wp_i2l dX7_isRegion_1 hv ?_
  refine wp_lconst (z := 0) dX7_isRegion_2 rfl ?_
  refine wp_ldc2 dX7_isRegion_3 cX7_100 ?_
  refine wp_is3 dX7_isRegion_6 SX7_in lX7_94 (rq0 rfl rfl) (Nat.le_of_ble_eq_true rfl) (C_in (by unfold r32 r64 at *; omega) (by unfold r64; omega) (by unfold r64; omega) ?_)
  dsimp only [pushR]
  exact wp_zret dX7_isRegion_9 rfl (bI_01 _) hQ
set_option maxHeartbeats 1000000 in
theorem C_isShelf {v : Int} (hv : r32 v) (hQ : Q (some (vI (bI (0 ≤ v ∧ v ≤ 3)))) h) : Cl X kX7_isShelf [vI v] h Q := by
  refine cl_of rfl (Nat.le_of_ble_eq_true rfl) rfl ?_
  refine wp_iload_n dX7_isShelf_0 rfl ?_
  refine wp_i2l dX7_isShelf_1 hv ?_
  refine wp_lconst (z := 0) dX7_isShelf_2 rfl ?_
  refine wp_ldc2 dX7_isShelf_3 cX7_195 ?_
  refine wp_is3 dX7_isShelf_6 SX7_in lX7_94 (rq0 rfl rfl) (Nat.le_of_ble_eq_true rfl) (C_in (by unfold r32 r64 at *; omega) (by unfold r64; omega) (by unfold r64; omega) ?_)
  dsimp only [pushR]
  exact wp_zret dX7_isShelf_9 rfl (bI_01 _) hQ
set_option maxHeartbeats 1000000 in
theorem C_hand {c : Int} (hQ : Q (some (vI (hA c))) h) : Cl X kX7_hand [vI c] h Q := by
  refine cl_of rfl (Nat.le_of_ble_eq_true rfl) rfl ?_
  refine wp_sipush dX7_hand_0 rfl ?_
  refine wp_bipush dX7_hand_3 rfl ?_
  refine wp_iload_n dX7_hand_5 rfl ?_
  refine wp_imul dX7_hand_6 ?_
  refine wp_iadd dX7_hand_7 ?_
  exact wp_iret dX7_hand_8 rfl hQ
set_option maxHeartbeats 1000000 in
theorem C_entryAt {a k : Int} (hQ : Q (some (vI (eA a k))) h) : Cl X kX7_entryAt [vI a, vI k] h Q := by
  refine cl_of rfl (Nat.le_of_ble_eq_true rfl) rfl ?_
  refine wp_sipush dX7_entryAt_0 rfl ?_
  refine wp_bipush dX7_entryAt_3 rfl ?_
  refine wp_bipush dX7_entryAt_5 rfl ?_
  refine wp_iload_n dX7_entryAt_7 rfl ?_
  refine wp_imul dX7_entryAt_8 ?_
  refine wp_iload_n dX7_entryAt_9 rfl ?_
  refine wp_iadd dX7_entryAt_10 ?_
  refine wp_imul dX7_entryAt_11 ?_
  refine wp_iadd dX7_entryAt_12 ?_
  exact wp_iret dX7_entryAt_13 rfl hQ
set_option maxHeartbeats 1000000 in
theorem C_oldAt {a k : Int} (hQ : Q (some (vI (oA a k))) h) : Cl X kX7_oldAt [vI a, vI k] h Q := by
  refine cl_of rfl (Nat.le_of_ble_eq_true rfl) rfl ?_
  refine wp_sipush dX7_oldAt_0 rfl ?_
  refine wp_iconst dX7_oldAt_3 ?_
  refine wp_bipush dX7_oldAt_4 rfl ?_
  refine wp_iload_n dX7_oldAt_6 rfl ?_
  refine wp_imul dX7_oldAt_7 ?_
  refine wp_iload_n dX7_oldAt_8 rfl ?_
  refine wp_iadd dX7_oldAt_9 ?_
  refine wp_imul dX7_oldAt_10 ?_
  refine wp_iadd dX7_oldAt_11 ?_
  exact wp_iret dX7_oldAt_12 rfl hQ
set_option maxHeartbeats 1000000 in
theorem C_leaseAt {a k : Int} (hQ : Q (some (vI (lA a k))) h) : Cl X kX7_leaseAt [vI a, vI k] h Q := by
  refine cl_of rfl (Nat.le_of_ble_eq_true rfl) rfl ?_
  refine wp_sipush dX7_leaseAt_0 rfl ?_
  refine wp_iconst dX7_leaseAt_3 ?_
  refine wp_bipush dX7_leaseAt_4 rfl ?_
  refine wp_iload_n dX7_leaseAt_6 rfl ?_
  refine wp_imul dX7_leaseAt_7 ?_
  refine wp_iload_n dX7_leaseAt_8 rfl ?_
  refine wp_iadd dX7_leaseAt_9 ?_
  refine wp_imul dX7_leaseAt_10 ?_
  refine wp_iadd dX7_leaseAt_11 ?_
  exact wp_iret dX7_leaseAt_12 rfl hQ
set_option maxHeartbeats 1000000 in
theorem C_holdAt {a k : Int} (hQ : Q (some (vI (dA a k))) h) : Cl X kX7_holdAt [vI a, vI k] h Q := by
  refine cl_of rfl (Nat.le_of_ble_eq_true rfl) rfl ?_
  refine wp_sipush dX7_holdAt_0 rfl ?_
  refine wp_bipush dX7_holdAt_3 rfl ?_
  refine wp_iload_n dX7_holdAt_5 rfl ?_
  refine wp_imul dX7_holdAt_6 ?_
  refine wp_iadd dX7_holdAt_7 ?_
  refine wp_iload_n dX7_holdAt_8 rfl ?_
  refine wp_iadd dX7_holdAt_9 ?_
  exact wp_iret dX7_holdAt_10 rfl hQ
set_option maxHeartbeats 1000000 in
theorem C_isThere {a v0 v1 : Int} (hS : SA 7 p q h) (ha : 0 ≤ a ∧ a < 1014) (h0 : g 0 = v0) (h1 : g a = v1) (hr0 : r32 v0) (hr1 : r32 v1) (hQ : Q (some (vI (bI (v0 < v1)))) (h.set q (oI 1014 g))) : Cl X kX7_isThere [vR p, vI a] (h.set q (oI 1014 g)) Q := by
  refine cl_of rfl (Nat.le_of_ble_eq_true rfl) rfl ?_
  subst h0; subst h1
  refine wp_aload_n dX7_isThere_0 rfl ?_
  refine sa_get hS dX7_isThere_1 fX7_9 ?_
  refine wp_iload_n dX7_isThere_4 rfl ?_
  refine sa_ld (v := g a) hS dX7_isThere_5 (by decide) (by omega) rfl ?_
  refine wp_aload_n dX7_isThere_6 rfl ?_
  refine sa_get hS dX7_isThere_7 fX7_9 ?_
  refine wp_iconst dX7_isThere_10 ?_
  refine sa_ld (v := g 0) hS dX7_isThere_11 (by decide) (by omega) rfl ?_
  refine wp_icmp_le 19 dX7_isThere_12 rfl (by assumption) (by assumption) (fun c12 => ?_) (fun c12 => ?_)
  · refine wp_iconst dX7_isThere_19 ?_
    exact wp_zret dX7_isThere_20 rfl (Or.inl rfl) (by first | (rw [bI_t (by omega)] at hQ; exact hQ) | (rw [bI_f (by omega)] at hQ; exact hQ))
  · refine wp_iconst dX7_isThere_15 ?_
    refine wp_goto 20 dX7_isThere_16 rfl ?_
    exact wp_zret dX7_isThere_20 rfl (Or.inr rfl) (by first | (rw [bI_t (by omega)] at hQ; exact hQ) | (rw [bI_f (by omega)] at hQ; exact hQ))
set_option maxHeartbeats 1000000 in
theorem C_groupOf {c v : Int} (hS : SA 7 p q h) (ha : 0 ≤ c ∧ c < 6) (hv : g (hA c + 0) = v) (hQ : Q (some (vI v)) (h.set q (oI 1014 g))) : Cl X kX7_groupOf [vR p, vI c] (h.set q (oI 1014 g)) Q := by
  refine cl_of rfl (Nat.le_of_ble_eq_true rfl) rfl ?_
  have hb := hA_b ha
  subst hv
  refine wp_aload_n dX7_groupOf_0 rfl ?_
  refine sa_get hS dX7_groupOf_1 fX7_9 ?_
  refine wp_iload_n dX7_groupOf_4 rfl ?_
  refine wp_is1 dX7_groupOf_5 SX7_hand lX7_82 (rq0 rfl rfl) (Nat.le_of_ble_eq_true rfl) (C_hand ?_)
  dsimp only [pushR]
  refine wp_iconst dX7_groupOf_8 ?_
  refine wp_iadd dX7_groupOf_9 ?_
  refine sa_ld (v := g (hA c + 0)) hS dX7_groupOf_10 (by decide) (by omega) rfl ?_
  exact wp_iret dX7_groupOf_11 rfl hQ
set_option maxHeartbeats 1000000 in
theorem C_keyOf {n v : Int} (hS : SA 7 p q h) (ha : 1 ≤ n ∧ n ≤ 60) (hv : g (36 + 3 * (n - 1)) = v) (hQ : Q (some (vI v)) (h.set q (oI 1014 g))) : Cl X kX7_keyOf [vR p, vI n] (h.set q (oI 1014 g)) Q := by
  refine cl_of rfl (Nat.le_of_ble_eq_true rfl) rfl ?_
  subst hv
  refine wp_aload_n dX7_keyOf_0 rfl ?_
  refine sa_get hS dX7_keyOf_1 fX7_9 ?_
  refine wp_bipush dX7_keyOf_4 rfl ?_
  refine wp_iconst dX7_keyOf_6 ?_
  refine wp_iload_n dX7_keyOf_7 rfl ?_
  refine wp_iconst dX7_keyOf_8 ?_
  refine wp_isub dX7_keyOf_9 ?_
  refine wp_imul dX7_keyOf_10 ?_
  refine wp_iadd dX7_keyOf_11 ?_
  refine sa_ld (v := g (36 + 3 * (n - 1))) hS dX7_keyOf_12 (by decide) (by omega) rfl ?_
  exact wp_iret dX7_keyOf_13 rfl hQ
def valO (g : Int → Int) (n : Int) : Int := if n = 0 then 0 else g (36 + 3 * (n - 1) + 1)
set_option maxHeartbeats 1000000 in
theorem C_valueOf {n : Int} (hS : SA 7 p q h) (ha : 0 ≤ n ∧ n ≤ 60) (hQ : Q (some (vI (valO g n))) (h.set q (oI 1014 g))) : Cl X kX7_valueOf [vR p, vI n] (h.set q (oI 1014 g)) Q := by
  refine cl_of rfl (Nat.le_of_ble_eq_true rfl) rfl ?_
  refine wp_iload_n dX7_valueOf_0 rfl ?_
  refine wp_if_ne 8 dX7_valueOf_1 rfl (by first | assumption | exact hR _ | exact bI_r _ | exact r32_1 hB hBB _ | exact r32_2 hB hBB _ _ | (unfold r32; omega)) (fun c1 => ?_) (fun c1 => ?_)
  · refine wp_aload_n dX7_valueOf_8 rfl ?_
    refine sa_get hS dX7_valueOf_9 fX7_9 ?_
    refine wp_bipush dX7_valueOf_12 rfl ?_
    refine wp_iconst dX7_valueOf_14 ?_
    refine wp_iload_n dX7_valueOf_15 rfl ?_
    refine wp_iconst dX7_valueOf_16 ?_
    refine wp_isub dX7_valueOf_17 ?_
    refine wp_imul dX7_valueOf_18 ?_
    refine wp_iadd dX7_valueOf_19 ?_
    refine wp_iconst dX7_valueOf_20 ?_
    refine wp_iadd dX7_valueOf_21 ?_
    refine sa_ld (v := g (36 + 3 * (n - 1) + 1)) hS dX7_valueOf_22 (by decide) (by omega) rfl ?_
    exact wp_iret dX7_valueOf_23 rfl (by unfold valO at hQ; first | (rw [if_pos (by omega)] at hQ; exact hQ) | (rw [if_neg (by omega)] at hQ; exact hQ))
  · refine wp_iconst dX7_valueOf_4 ?_
    refine wp_goto 23 dX7_valueOf_5 rfl ?_
    exact wp_iret dX7_valueOf_23 rfl (by unfold valO at hQ; first | (rw [if_pos (by omega)] at hQ; exact hQ) | (rw [if_neg (by omega)] at hQ; exact hQ))
end ML
