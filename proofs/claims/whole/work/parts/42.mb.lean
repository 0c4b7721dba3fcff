/-! the reference: get, look, fill, write, apply, cold on its row -/
section MB
variable {X : XS} {h : AH} {Q : Option AV → AH → Prop} {p q : Nat} {g : Int → Int} {B : Int}
def Bd (B : Int) (g : Int → Int) : Prop := ∀ j, -1 ≤ g j ∧ g j ≤ B
theorem Bd.r (hB : Bd B g) (h : B ≤ 1000000000) : ∀ j, r32 (g j) := fun j => by have := hB j; unfold r32; omega
theorem rg_ud {i x : Int} (hR : ∀ j, r32 (g j)) (hx : r32 x) : ∀ j, r32 (ud g i x j) := fun j => by unfold ud; split; exact hx; exact hR j
theorem r32_1 (hB : Bd B g) (h : B ≤ 1000000000) (j : Int) : r32 (g j + 1) := by have := hB j; unfold r32; omega
theorem r32_2 (hB : Bd B g) (h : B ≤ 1000000000) (i j : Int) : r32 (g i + g j) := by have := hB i; have := hB j; unfold r32; omega
theorem Bd.wr {i x : Int} (hB : Bd B g) (hx : -1 ≤ x ∧ x ≤ B) : Bd B (ud g i x) := fun j => by unfold ud; split; exact hx; exact hB j
theorem Bd.up {C : Int} (hB : Bd B g) (h : B ≤ C) : Bd C g := fun j => by have := hB j; omega
def spGet (g : Int → Int) (c k : Int) : Int × (Int → Int) :=
  let a := g (hA c + 0)
  if g 0 < g (eA a k) then (g (eA a k + 1), ud (ud (ud (ud g (eA a k + 4) (g 0)) (eA a k + 5) (g (eA a k + 5) + 1)) (26 + k) (g (26 + k) + 1)) 16 (g 16 + 1))
  else if g 9 = 1 ∧ g 0 < g (lA a k) then
    (if g (lA a k + 1) = c then (-6, g) else if g 0 < g (oA a k) then (1000 + g (oA a k + 1), ud g 19 (g 19 + 1)) else (-4, ud g 18 (g 18 + 1)))
  else if g 9 = 1 then (-6, ud (ud (ud (ud (ud (ud (ud (ud (ud g (hA c + 1) k) (hA c + 2) 0) (hA c + 3) 0) 1 (g 1 + 1)) (hA c + 2) (g 1 + 1)) (lA a k) (g 0 + g 6)) (lA a k + 1) c) (lA a k + 2) (g 1 + 1)) 17 (g 17 + 1))
  else (-6, ud (ud (ud (ud g (hA c + 1) k) (hA c + 2) 0) (hA c + 3) 0) 17 (g 17 + 1))
set_option maxHeartbeats 2000000 in
theorem C_doGet {c k : Int} (hS : SA 7 p q h) (hB : Bd B g) (hBB : B ≤ 1000000000) (hc : 0 ≤ c ∧ c < 6) (hk : 0 ≤ k ∧ k < 10) (hG : 0 ≤ g (hA c + 0) ∧ g (hA c + 0) < 6) (hQ : Q (some (vI (spGet g c k).1)) (h.set q (oI 1014 (spGet g c k).2))) : Cl X kX7_doGet [vR p, vI c, vI k] (h.set q (oI 1014 g)) Q := by
  refine cl_of rfl (Nat.le_of_ble_eq_true rfl) rfl ?_
  have hR := hB.r hBB
  have hb1 := hA_b hc
  have hb2 := eA_b hG hk
  have hb3 := oA_b hG hk
  have hb4 := lA_b hG hk
  refine wp_aload_n dX7_doGet_0 rfl ?_
  refine wp_iload_n dX7_doGet_1 rfl ?_
  refine sa_i1 hS dX7_doGet_2 VX7_groupOf lX7_109 (rq0 rfl rfl) (Nat.le_of_ble_eq_true rfl) (C_groupOf (v := g (hA c + 0)) hS (by omega) rfl ?_)
  dsimp only [pushR]
  refine wp_istore_n (L' := [some (vR p), some (vI c), some (vI k), some (vI (g (hA c + 0))), none, none, none]) dX7_doGet_5 (by decide) rfl ?_
  refine wp_iload_n dX7_doGet_6 rfl ?_
  refine wp_iload_n dX7_doGet_7 rfl ?_
  refine wp_is2 dX7_doGet_8 SX7_entryAt lX7_112 (rq0 rfl rfl) (Nat.le_of_ble_eq_true rfl) (C_entryAt ?_)
  dsimp only [pushR]
  refine wp_istore (L' := [some (vR p), some (vI c), some (vI k), some (vI (g (hA c + 0))), some (vI (eA (g (hA c + 0)) k)), none, none]) dX7_doGet_11 (by decide) rfl ?_
  refine wp_aload_n dX7_doGet_13 rfl ?_
  refine wp_iload dX7_doGet_14 rfl ?_
  refine sa_i1 hS dX7_doGet_16 VX7_isThere lX7_115 (rq0 rfl rfl) (Nat.le_of_ble_eq_true rfl) (C_isThere (v0 := g 0) (v1 := g (eA (g (hA c + 0)) k)) hS (by omega) rfl rfl (by first | assumption | exact hR _ | exact bI_r _ | exact r32_1 hB hBB _ | exact r32_2 hB hBB _ _ | (unfold r32; omega)) (by first | assumption | exact hR _ | exact bI_r _ | exact r32_1 hB hBB _ | exact r32_2 hB hBB _ _ | (unfold r32; omega)) ?_)
  dsimp only [pushR]
  refine wp_beq 84 dX7_doGet_19 rfl (fun c19 => ?_) (fun c19 => ?_)
  · refine wp_iload_n dX7_doGet_84 rfl ?_
    refine wp_iload_n dX7_doGet_85 rfl ?_
    refine wp_is2 dX7_doGet_86 SX7_leaseAt lX7_119 (rq0 rfl rfl) (Nat.le_of_ble_eq_true rfl) (C_leaseAt ?_)
    dsimp only [pushR]
    refine wp_istore (L' := [some (vR p), some (vI c), some (vI k), some (vI (g (hA c + 0))), some (vI (eA (g (hA c + 0)) k)), some (vI (lA (g (hA c + 0)) k)), none]) dX7_doGet_89 (by decide) rfl ?_
    refine wp_aload_n dX7_doGet_91 rfl ?_
    refine sa_get hS dX7_doGet_92 fX7_9 ?_
    refine wp_bipush dX7_doGet_95 rfl ?_
    refine sa_ld (v := g 9) hS dX7_doGet_97 (by decide) (by omega) rfl ?_
    refine wp_iconst dX7_doGet_98 ?_
    refine wp_icmp_ne 181 dX7_doGet_99 rfl (by first | assumption | exact hR _ | exact bI_r _ | exact r32_1 hB hBB _ | exact r32_2 hB hBB _ _ | (unfold r32; omega)) ⟨by omega, by omega⟩ (fun c99 => ?_) (fun c99 => ?_)
    · refine wp_iload_n dX7_doGet_181 rfl ?_
      refine wp_is1 dX7_doGet_182 SX7_hand lX7_82 (rq0 rfl rfl) (Nat.le_of_ble_eq_true rfl) (C_hand ?_)
      dsimp only [pushR]
      refine wp_istore (L' := [some (vR p), some (vI c), some (vI k), some (vI (g (hA c + 0))), some (vI (eA (g (hA c + 0)) k)), some (vI (lA (g (hA c + 0)) k)), some (vI (hA c))]) dX7_doGet_185 (by decide) rfl ?_
      refine wp_aload_n dX7_doGet_187 rfl ?_
      refine sa_get hS dX7_doGet_188 fX7_9 ?_
      refine wp_iload dX7_doGet_191 rfl ?_
      refine wp_iconst dX7_doGet_193 ?_
      refine wp_iadd dX7_doGet_194 ?_
      refine wp_iload_n dX7_doGet_195 rfl ?_
      refine sa_st hS dX7_doGet_196 (by decide) (by omega) ?_
      refine wp_aload_n dX7_doGet_197 rfl ?_
      refine sa_get hS dX7_doGet_198 fX7_9 ?_
      refine wp_iload dX7_doGet_201 rfl ?_
      refine wp_iconst dX7_doGet_203 ?_
      refine wp_iadd dX7_doGet_204 ?_
      refine wp_iconst dX7_doGet_205 ?_
      refine sa_st hS dX7_doGet_206 (by decide) (by omega) ?_
      refine wp_aload_n dX7_doGet_207 rfl ?_
      refine sa_get hS dX7_doGet_208 fX7_9 ?_
      refine wp_iload dX7_doGet_211 rfl ?_
      refine wp_iconst dX7_doGet_213 ?_
      refine wp_iadd dX7_doGet_214 ?_
      refine wp_iconst dX7_doGet_215 ?_
      refine sa_st hS dX7_doGet_216 (by decide) (by omega) ?_
      refine wp_aload_n dX7_doGet_217 rfl ?_
      refine sa_get hS dX7_doGet_218 fX7_9 ?_
      refine wp_bipush dX7_doGet_221 rfl ?_
      refine sa_ld (v := g 9) hS dX7_doGet_223 (by decide) (by omega) (by rw [ud_ne (by omega), ud_ne (by omega), ud_ne (by omega)]) ?_
      refine wp_iconst dX7_doGet_224 ?_
      refine wp_icmp_ne 299 dX7_doGet_225 rfl (by first | assumption | exact hR _ | exact bI_r _ | exact r32_1 hB hBB _ | exact r32_2 hB hBB _ _ | (unfold r32; omega)) ⟨by omega, by omega⟩ (fun c225 => ?_) (fun c225 => ?_)
      · refine wp_aload_n dX7_doGet_299 rfl ?_
        refine sa_get hS dX7_doGet_300 fX7_9 ?_
        refine wp_bipush dX7_doGet_303 rfl ?_
        refine wp_dup2 dX7_doGet_305 rfl rfl ?_
        refine sa_ld (v := g 17) hS dX7_doGet_306 (by decide) (by omega) (by rw [ud_ne (by omega), ud_ne (by omega), ud_ne (by omega)]) ?_
        refine wp_iconst dX7_doGet_307 ?_
        refine wp_iadd dX7_doGet_308 ?_
        refine sa_st hS dX7_doGet_309 (by decide) (by omega) ?_
        refine wp_bipush dX7_doGet_310 rfl ?_
        exact wp_iret dX7_doGet_312 rfl (by simp only [spGet] at hQ; (repeat' split at hQ) <;> first | (exfalso; omega) | exact hQ)
      · refine wp_aload_n dX7_doGet_228 rfl ?_
        refine sa_get hS dX7_doGet_229 fX7_9 ?_
        refine wp_iconst dX7_doGet_232 ?_
        refine wp_dup2 dX7_doGet_233 rfl rfl ?_
        refine sa_ld (v := g 1) hS dX7_doGet_234 (by decide) (by omega) (by rw [ud_ne (by omega), ud_ne (by omega), ud_ne (by omega)]) ?_
        refine wp_iconst dX7_doGet_235 ?_
        refine wp_iadd dX7_doGet_236 ?_
        refine sa_st hS dX7_doGet_237 (by decide) (by omega) ?_
        refine wp_aload_n dX7_doGet_238 rfl ?_
        refine sa_get hS dX7_doGet_239 fX7_9 ?_
        refine wp_iload dX7_doGet_242 rfl ?_
        refine wp_iconst dX7_doGet_244 ?_
        refine wp_iadd dX7_doGet_245 ?_
        refine wp_aload_n dX7_doGet_246 rfl ?_
        refine sa_get hS dX7_doGet_247 fX7_9 ?_
        refine wp_iconst dX7_doGet_250 ?_
        refine sa_ld (v := g 1 + 1) hS dX7_doGet_251 (by decide) (by omega) (by rw [ud_eq]) ?_
        refine sa_st hS dX7_doGet_252 (by decide) (by omega) ?_
        refine wp_aload_n dX7_doGet_253 rfl ?_
        refine sa_get hS dX7_doGet_254 fX7_9 ?_
        refine wp_iload dX7_doGet_257 rfl ?_
        refine wp_aload_n dX7_doGet_259 rfl ?_
        refine sa_get hS dX7_doGet_260 fX7_9 ?_
        refine wp_iconst dX7_doGet_263 ?_
        refine sa_ld (v := g 0) hS dX7_doGet_264 (by decide) (by omega) (by rw [ud_ne (by omega), ud_ne (by omega), ud_ne (by omega), ud_ne (by omega), ud_ne (by omega)]) ?_
        refine wp_aload_n dX7_doGet_265 rfl ?_
        refine sa_get hS dX7_doGet_266 fX7_9 ?_
        refine wp_bipush dX7_doGet_269 rfl ?_
        refine sa_ld (v := g 6) hS dX7_doGet_271 (by decide) (by omega) (by rw [ud_ne (by omega), ud_ne (by omega), ud_ne (by omega), ud_ne (by omega), ud_ne (by omega)]) ?_
        refine wp_iadd dX7_doGet_272 ?_
        refine sa_st hS dX7_doGet_273 (by decide) (by omega) ?_
        refine wp_aload_n dX7_doGet_274 rfl ?_
        refine sa_get hS dX7_doGet_275 fX7_9 ?_
        refine wp_iload dX7_doGet_278 rfl ?_
        refine wp_iconst dX7_doGet_280 ?_
        refine wp_iadd dX7_doGet_281 ?_
        refine wp_iload_n dX7_doGet_282 rfl ?_
        refine sa_st hS dX7_doGet_283 (by decide) (by omega) ?_
        refine wp_aload_n dX7_doGet_284 rfl ?_
        refine sa_get hS dX7_doGet_285 fX7_9 ?_
        refine wp_iload dX7_doGet_288 rfl ?_
        refine wp_iconst dX7_doGet_290 ?_
        refine wp_iadd dX7_doGet_291 ?_
        refine wp_aload_n dX7_doGet_292 rfl ?_
        refine sa_get hS dX7_doGet_293 fX7_9 ?_
        refine wp_iconst dX7_doGet_296 ?_
        refine sa_ld (v := g 1 + 1) hS dX7_doGet_297 (by decide) (by omega) (by rw [ud_ne (by omega), ud_ne (by omega), ud_ne (by omega), ud_eq]) ?_
        refine sa_st hS dX7_doGet_298 (by decide) (by omega) ?_
        refine wp_aload_n dX7_doGet_299 rfl ?_
        refine sa_get hS dX7_doGet_300 fX7_9 ?_
        refine wp_bipush dX7_doGet_303 rfl ?_
        refine wp_dup2 dX7_doGet_305 rfl rfl ?_
        refine sa_ld (v := g 17) hS dX7_doGet_306 (by decide) (by omega) (by rw [ud_ne (by omega), ud_ne (by omega), ud_ne (by omega), ud_ne (by omega), ud_ne (by omega), ud_ne (by omega), ud_ne (by omega), ud_ne (by omega)]) ?_
        refine wp_iconst dX7_doGet_307 ?_
        refine wp_iadd dX7_doGet_308 ?_
        refine sa_st hS dX7_doGet_309 (by decide) (by omega) ?_
        refine wp_bipush dX7_doGet_310 rfl ?_
        exact wp_iret dX7_doGet_312 rfl (by simp only [spGet] at hQ; (repeat' split at hQ) <;> first | (exfalso; omega) | exact hQ)
    · refine wp_aload_n dX7_doGet_102 rfl ?_
      refine wp_iload dX7_doGet_103 rfl ?_
      refine sa_i1 hS dX7_doGet_105 VX7_isThere lX7_115 (rq0 rfl rfl) (Nat.le_of_ble_eq_true rfl) (C_isThere (v0 := g 0) (v1 := g (lA (g (hA c + 0)) k)) hS (by omega) rfl rfl (by first | assumption | exact hR _ | exact bI_r _ | exact r32_1 hB hBB _ | exact r32_2 hB hBB _ _ | (unfold r32; omega)) (by first | assumption | exact hR _ | exact bI_r _ | exact r32_1 hB hBB _ | exact r32_2 hB hBB _ _ | (unfold r32; omega)) ?_)
      dsimp only [pushR]
      refine wp_beq 181 dX7_doGet_108 rfl (fun c108 => ?_) (fun c108 => ?_)
      · refine wp_iload_n dX7_doGet_181 rfl ?_
        refine wp_is1 dX7_doGet_182 SX7_hand lX7_82 (rq0 rfl rfl) (Nat.le_of_ble_eq_true rfl) (C_hand ?_)
        dsimp only [pushR]
        refine wp_istore (L' := [some (vR p), some (vI c), some (vI k), some (vI (g (hA c + 0))), some (vI (eA (g (hA c + 0)) k)), some (vI (lA (g (hA c + 0)) k)), some (vI (hA c))]) dX7_doGet_185 (by decide) rfl ?_
        refine wp_aload_n dX7_doGet_187 rfl ?_
        refine sa_get hS dX7_doGet_188 fX7_9 ?_
        refine wp_iload dX7_doGet_191 rfl ?_
        refine wp_iconst dX7_doGet_193 ?_
        refine wp_iadd dX7_doGet_194 ?_
        refine wp_iload_n dX7_doGet_195 rfl ?_
        refine sa_st hS dX7_doGet_196 (by decide) (by omega) ?_
        refine wp_aload_n dX7_doGet_197 rfl ?_
        refine sa_get hS dX7_doGet_198 fX7_9 ?_
        refine wp_iload dX7_doGet_201 rfl ?_
        refine wp_iconst dX7_doGet_203 ?_
        refine wp_iadd dX7_doGet_204 ?_
        refine wp_iconst dX7_doGet_205 ?_
        refine sa_st hS dX7_doGet_206 (by decide) (by omega) ?_
        refine wp_aload_n dX7_doGet_207 rfl ?_
        refine sa_get hS dX7_doGet_208 fX7_9 ?_
        refine wp_iload dX7_doGet_211 rfl ?_
        refine wp_iconst dX7_doGet_213 ?_
        refine wp_iadd dX7_doGet_214 ?_
        refine wp_iconst dX7_doGet_215 ?_
        refine sa_st hS dX7_doGet_216 (by decide) (by omega) ?_
        refine wp_aload_n dX7_doGet_217 rfl ?_
        refine sa_get hS dX7_doGet_218 fX7_9 ?_
        refine wp_bipush dX7_doGet_221 rfl ?_
        refine sa_ld (v := g 9) hS dX7_doGet_223 (by decide) (by omega) (by rw [ud_ne (by omega), ud_ne (by omega), ud_ne (by omega)]) ?_
        refine wp_iconst dX7_doGet_224 ?_
        refine wp_icmp_ne 299 dX7_doGet_225 rfl (by first | assumption | exact hR _ | exact bI_r _ | exact r32_1 hB hBB _ | exact r32_2 hB hBB _ _ | (unfold r32; omega)) ⟨by omega, by omega⟩ (fun c225 => ?_) (fun c225 => ?_)
        · refine wp_aload_n dX7_doGet_299 rfl ?_
          refine sa_get hS dX7_doGet_300 fX7_9 ?_
          refine wp_bipush dX7_doGet_303 rfl ?_
          refine wp_dup2 dX7_doGet_305 rfl rfl ?_
          refine sa_ld (v := g 17) hS dX7_doGet_306 (by decide) (by omega) (by rw [ud_ne (by omega), ud_ne (by omega), ud_ne (by omega)]) ?_
          refine wp_iconst dX7_doGet_307 ?_
          refine wp_iadd dX7_doGet_308 ?_
          refine sa_st hS dX7_doGet_309 (by decide) (by omega) ?_
          refine wp_bipush dX7_doGet_310 rfl ?_
          exact wp_iret dX7_doGet_312 rfl (by simp only [spGet] at hQ; (repeat' split at hQ) <;> first | (exfalso; omega) | exact hQ)
        · refine wp_aload_n dX7_doGet_228 rfl ?_
          refine sa_get hS dX7_doGet_229 fX7_9 ?_
          refine wp_iconst dX7_doGet_232 ?_
          refine wp_dup2 dX7_doGet_233 rfl rfl ?_
          refine sa_ld (v := g 1) hS dX7_doGet_234 (by decide) (by omega) (by rw [ud_ne (by omega), ud_ne (by omega), ud_ne (by omega)]) ?_
          refine wp_iconst dX7_doGet_235 ?_
          refine wp_iadd dX7_doGet_236 ?_
          refine sa_st hS dX7_doGet_237 (by decide) (by omega) ?_
          refine wp_aload_n dX7_doGet_238 rfl ?_
          refine sa_get hS dX7_doGet_239 fX7_9 ?_
          refine wp_iload dX7_doGet_242 rfl ?_
          refine wp_iconst dX7_doGet_244 ?_
          refine wp_iadd dX7_doGet_245 ?_
          refine wp_aload_n dX7_doGet_246 rfl ?_
          refine sa_get hS dX7_doGet_247 fX7_9 ?_
          refine wp_iconst dX7_doGet_250 ?_
          refine sa_ld (v := g 1 + 1) hS dX7_doGet_251 (by decide) (by omega) (by rw [ud_eq]) ?_
          refine sa_st hS dX7_doGet_252 (by decide) (by omega) ?_
          refine wp_aload_n dX7_doGet_253 rfl ?_
          refine sa_get hS dX7_doGet_254 fX7_9 ?_
          refine wp_iload dX7_doGet_257 rfl ?_
          refine wp_aload_n dX7_doGet_259 rfl ?_
          refine sa_get hS dX7_doGet_260 fX7_9 ?_
          refine wp_iconst dX7_doGet_263 ?_
          refine sa_ld (v := g 0) hS dX7_doGet_264 (by decide) (by omega) (by rw [ud_ne (by omega), ud_ne (by omega), ud_ne (by omega), ud_ne (by omega), ud_ne (by omega)]) ?_
          refine wp_aload_n dX7_doGet_265 rfl ?_
          refine sa_get hS dX7_doGet_266 fX7_9 ?_
          refine wp_bipush dX7_doGet_269 rfl ?_
          refine sa_ld (v := g 6) hS dX7_doGet_271 (by decide) (by omega) (by rw [ud_ne (by omega), ud_ne (by omega), ud_ne (by omega), ud_ne (by omega), ud_ne (by omega)]) ?_
          refine wp_iadd dX7_doGet_272 ?_
          refine sa_st hS dX7_doGet_273 (by decide) (by omega) ?_
          refine wp_aload_n dX7_doGet_274 rfl ?_
          refine sa_get hS dX7_doGet_275 fX7_9 ?_
          refine wp_iload dX7_doGet_278 rfl ?_
          refine wp_iconst dX7_doGet_280 ?_
          refine wp_iadd dX7_doGet_281 ?_
          refine wp_iload_n dX7_doGet_282 rfl ?_
          refine sa_st hS dX7_doGet_283 (by decide) (by omega) ?_
          refine wp_aload_n dX7_doGet_284 rfl ?_
          refine sa_get hS dX7_doGet_285 fX7_9 ?_
          refine wp_iload dX7_doGet_288 rfl ?_
          refine wp_iconst dX7_doGet_290 ?_
          refine wp_iadd dX7_doGet_291 ?_
          refine wp_aload_n dX7_doGet_292 rfl ?_
          refine sa_get hS dX7_doGet_293 fX7_9 ?_
          refine wp_iconst dX7_doGet_296 ?_
          refine sa_ld (v := g 1 + 1) hS dX7_doGet_297 (by decide) (by omega) (by rw [ud_ne (by omega), ud_ne (by omega), ud_ne (by omega), ud_eq]) ?_
          refine sa_st hS dX7_doGet_298 (by decide) (by omega) ?_
          refine wp_aload_n dX7_doGet_299 rfl ?_
          refine sa_get hS dX7_doGet_300 fX7_9 ?_
          refine wp_bipush dX7_doGet_303 rfl ?_
          refine wp_dup2 dX7_doGet_305 rfl rfl ?_
          refine sa_ld (v := g 17) hS dX7_doGet_306 (by decide) (by omega) (by rw [ud_ne (by omega), ud_ne (by omega), ud_ne (by omega), ud_ne (by omega), ud_ne (by omega), ud_ne (by omega), ud_ne (by omega), ud_ne (by omega)]) ?_
          refine wp_iconst dX7_doGet_307 ?_
          refine wp_iadd dX7_doGet_308 ?_
          refine sa_st hS dX7_doGet_309 (by decide) (by omega) ?_
          refine wp_bipush dX7_doGet_310 rfl ?_
          exact wp_iret dX7_doGet_312 rfl (by simp only [spGet] at hQ; (repeat' split at hQ) <;> first | (exfalso; omega) | exact hQ)
      · refine wp_aload_n dX7_doGet_111 rfl ?_
        refine sa_get hS dX7_doGet_112 fX7_9 ?_
        refine wp_iload dX7_doGet_115 rfl ?_
        refine wp_iconst dX7_doGet_117 ?_
        refine wp_iadd dX7_doGet_118 ?_
        refine sa_ld (v := g (lA (g (hA c + 0)) k + 1)) hS dX7_doGet_119 (by decide) (by omega) rfl ?_
        refine wp_iload_n dX7_doGet_120 rfl ?_
        refine wp_icmp_ne 127 dX7_doGet_121 rfl (by first | assumption | exact hR _ | exact bI_r _ | exact r32_1 hB hBB _ | exact r32_2 hB hBB _ _ | (unfold r32; omega)) (by first | assumption | exact hR _ | exact bI_r _ | exact r32_1 hB hBB _ | exact r32_2 hB hBB _ _ | (unfold r32; omega)) (fun c121 => ?_) (fun c121 => ?_)
        · refine wp_aload_n dX7_doGet_127 rfl ?_
          refine wp_iload_n dX7_doGet_128 rfl ?_
          refine wp_iload_n dX7_doGet_129 rfl ?_
          refine wp_is2 dX7_doGet_130 SX7_oldAt lX7_122 (rq0 rfl rfl) (Nat.le_of_ble_eq_true rfl) (C_oldAt ?_)
          dsimp only [pushR]
          refine sa_i1 hS dX7_doGet_133 VX7_isThere lX7_115 (rq0 rfl rfl) (Nat.le_of_ble_eq_true rfl) (C_isThere (v0 := g 0) (v1 := g (oA (g (hA c + 0)) k)) hS (by omega) rfl rfl (by first | assumption | exact hR _ | exact bI_r _ | exact r32_1 hB hBB _ | exact r32_2 hB hBB _ _ | (unfold r32; omega)) (by first | assumption | exact hR _ | exact bI_r _ | exact r32_1 hB hBB _ | exact r32_2 hB hBB _ _ | (unfold r32; omega)) ?_)
          dsimp only [pushR]
          refine wp_beq 167 dX7_doGet_136 rfl (fun c136 => ?_) (fun c136 => ?_)
          · refine wp_aload_n dX7_doGet_167 rfl ?_
            refine sa_get hS dX7_doGet_168 fX7_9 ?_
            refine wp_bipush dX7_doGet_171 rfl ?_
            refine wp_dup2 dX7_doGet_173 rfl rfl ?_
            refine sa_ld (v := g 18) hS dX7_doGet_174 (by decide) (by omega) rfl ?_
            refine wp_iconst dX7_doGet_175 ?_
            refine wp_iadd dX7_doGet_176 ?_
            refine sa_st hS dX7_doGet_177 (by decide) (by omega) ?_
            refine wp_bipush dX7_doGet_178 rfl ?_
            exact wp_iret dX7_doGet_180 rfl (by simp only [spGet] at hQ; (repeat' split at hQ) <;> first | (exfalso; omega) | exact hQ)
          · refine wp_aload_n dX7_doGet_139 rfl ?_
            refine sa_get hS dX7_doGet_140 fX7_9 ?_
            refine wp_bipush dX7_doGet_143 rfl ?_
            refine wp_dup2 dX7_doGet_145 rfl rfl ?_
            refine sa_ld (v := g 19) hS dX7_doGet_146 (by decide) (by omega) rfl ?_
            refine wp_iconst dX7_doGet_147 ?_
            refine wp_iadd dX7_doGet_148 ?_
            refine sa_st hS dX7_doGet_149 (by decide) (by omega) ?_
            refine wp_sipush dX7_doGet_150 rfl ?_
            refine wp_aload_n dX7_doGet_153 rfl ?_
            refine sa_get hS dX7_doGet_154 fX7_9 ?_
            refine wp_iload_n dX7_doGet_157 rfl ?_
            refine wp_iload_n dX7_doGet_158 rfl ?_
            refine wp_is2 dX7_doGet_159 SX7_oldAt lX7_122 (rq0 rfl rfl) (Nat.le_of_ble_eq_true rfl) (C_oldAt ?_)
            dsimp only [pushR]
            refine wp_iconst dX7_doGet_162 ?_
            refine wp_iadd dX7_doGet_163 ?_
            refine sa_ld (v := g (oA (g (hA c + 0)) k + 1)) hS dX7_doGet_164 (by decide) (by omega) (by rw [ud_ne (by omega)]) ?_
            refine wp_iadd dX7_doGet_165 ?_
            exact wp_iret dX7_doGet_166 rfl (by simp only [spGet] at hQ; (repeat' split at hQ) <;> first | (exfalso; omega) | exact hQ)
        · refine wp_bipush dX7_doGet_124 rfl ?_
          exact wp_iret dX7_doGet_126 rfl (by simp only [spGet] at hQ; (repeat' split at hQ) <;> first | (exfalso; omega) | exact hQ)
  · refine wp_aload_n dX7_doGet_22 rfl ?_
    refine sa_get hS dX7_doGet_23 fX7_9 ?_
    refine wp_iload dX7_doGet_26 rfl ?_
    refine wp_iconst dX7_doGet_28 ?_
    refine wp_iadd dX7_doGet_29 ?_
    refine wp_aload_n dX7_doGet_30 rfl ?_
    refine sa_get hS dX7_doGet_31 fX7_9 ?_
    refine wp_iconst dX7_doGet_34 ?_
    refine sa_ld (v := g 0) hS dX7_doGet_35 (by decide) (by omega) rfl ?_
    refine sa_st hS dX7_doGet_36 (by decide) (by omega) ?_
    refine wp_aload_n dX7_doGet_37 rfl ?_
    refine sa_get hS dX7_doGet_38 fX7_9 ?_
    refine wp_iload dX7_doGet_41 rfl ?_
    refine wp_iconst dX7_doGet_43 ?_
    refine wp_iadd dX7_doGet_44 ?_
    refine wp_dup2 dX7_doGet_45 rfl rfl ?_
    refine sa_ld (v := g (eA (g (hA c + 0)) k + 5)) hS dX7_doGet_46 (by decide) (by omega) (by rw [ud_ne (by omega)]) ?_
    refine wp_iconst dX7_doGet_47 ?_
    refine wp_iadd dX7_doGet_48 ?_
    refine sa_st hS dX7_doGet_49 (by decide) (by omega) ?_
    refine wp_aload_n dX7_doGet_50 rfl ?_
    refine sa_get hS dX7_doGet_51 fX7_9 ?_
    refine wp_bipush dX7_doGet_54 rfl ?_
    refine wp_iload_n dX7_doGet_56 rfl ?_
    refine wp_iadd dX7_doGet_57 ?_
    refine wp_dup2 dX7_doGet_58 rfl rfl ?_
    refine sa_ld (v := g (26 + k)) hS dX7_doGet_59 (by decide) (by omega) (by rw [ud_ne (by omega), ud_ne (by omega)]) ?_
    refine wp_iconst dX7_doGet_60 ?_
    refine wp_iadd dX7_doGet_61 ?_
    refine sa_st hS dX7_doGet_62 (by decide) (by omega) ?_
    refine wp_aload_n dX7_doGet_63 rfl ?_
    refine sa_get hS dX7_doGet_64 fX7_9 ?_
    refine wp_bipush dX7_doGet_67 rfl ?_
    refine wp_dup2 dX7_doGet_69 rfl rfl ?_
    refine sa_ld (v := g 16) hS dX7_doGet_70 (by decide) (by omega) (by rw [ud_ne (by omega), ud_ne (by omega), ud_ne (by omega)]) ?_
    refine wp_iconst dX7_doGet_71 ?_
    refine wp_iadd dX7_doGet_72 ?_
    refine sa_st hS dX7_doGet_73 (by decide) (by omega) ?_
    refine wp_aload_n dX7_doGet_74 rfl ?_
    refine sa_get hS dX7_doGet_75 fX7_9 ?_
    refine wp_iload dX7_doGet_78 rfl ?_
    refine wp_iconst dX7_doGet_80 ?_
    refine wp_iadd dX7_doGet_81 ?_
    refine sa_ld (v := g (eA (g (hA c + 0)) k + 1)) hS dX7_doGet_82 (by decide) (by omega) (by rw [ud_ne (by omega), ud_ne (by omega), ud_ne (by omega), ud_ne (by omega)]) ?_
    exact wp_iret dX7_doGet_83 rfl (by simp only [spGet] at hQ; (repeat' split at hQ) <;> first | (exfalso; omega) | exact hQ)
def besO (a : Int) : Int := if a % 2 = 0 then a + 1 else a - 1
def frO (g : Int → Int) (a k : Int) : Int := if 0 < g (942 + 10 * (a / 2) + k) then 0 else a / 2
def spLook (g : Int → Int) (c : Int) : Int × (Int → Int) :=
  let k := g (hA c + 1)
  let a := g (hA c + 0)
  let z := besO a
  if k = -1 then (-5, g)
  else if g (216 + a) = 1 ∧ g (216 + z) = 0 ∧ g 0 < g (eA z k) then
    (g (eA z k + 1), ud (ud (ud (ud (ud g (hA c + 3) 1) (hA c + 4) (g (eA z k + 1))) (hA c + 5) (g (eA z k + 2))) (hA c + 6) 1) 22 (g 22 + 1))
  else
    let f := frO g a k
    let g1 := ud (ud g (hA c + 3) 1) (13 + f) (g (13 + f) + 1)
    let v := svO g1 f k
    let g2 := ud g1 (hA c + 5) v
    (valO g2 v, ud (ud g2 (hA c + 4) (valO g2 v)) (hA c + 6) 0)
theorem lastL_b (g : Int → Int) (k : Int) : ∀ (m : Nat) (n : Int), 0 ≤ n → 0 ≤ lastL g k m n ∧ lastL g k m n ≤ n := by
  intro m
  induction m with
  | zero => intro n h; exact ⟨h, Int.le_refl n⟩
  | succ m ih =>
    intro n h
    unfold lastL
    split
    · exact ⟨h, Int.le_refl n⟩
    · split
      · exact ⟨h, Int.le_refl n⟩
      · have := ih (n + -1) (by omega)
        omega
theorem svO_b {g : Int → Int} {r k : Int} (hm : 0 ≤ g 2 ∧ g 2 ≤ 60) (hp : 0 ≤ g (10 + r) ∧ g (10 + r) ≤ 60) : 0 ≤ svO g r k ∧ svO g r k ≤ 60 := by
  unfold svO lastI
  split
  · have := lastL_b g k 60 (g 2) hm.1; omega
  · have := lastL_b g k 60 (g (10 + r)) hp.1; omega
set_option maxHeartbeats 4000000 in
theorem sx_look2 {c z f r : Int} {e : AV} {b : Nat × Nat} (hS : SA 7 p q h) (hB : Bd B g) (hBB : B ≤ 1000000000) (hc : 0 ≤ c ∧ c < 6) (hk : 0 ≤ g (hA c + 1) ∧ g (hA c + 1) < 10) (hG : 0 ≤ g (hA c + 0) ∧ g (hA c + 0) < 6) (hm : 0 ≤ g 2 ∧ g 2 ≤ 60) (hpl : ∀ r, 0 ≤ r ∧ r < 3 → 0 ≤ g (10 + r) ∧ g (10 + r) ≤ 60) (hf : 0 ≤ f ∧ f < 3) (hQ : Q (some (vI (valO (ud (ud (ud g (hA c + 3) 1) (13 + f) (g (13 + f) + 1)) (hA c + 5) (svO (ud (ud g (hA c + 3) 1) (13 + f) (g (13 + f) + 1)) f (g (hA c + 1)))) (svO (ud (ud g (hA c + 3) 1) (13 + f) (g (13 + f) + 1)) f (g (hA c + 1)))))) (h.set q (oI 1014 (ud (ud (ud (ud (ud g (hA c + 3) 1) (13 + f) (g (13 + f) + 1)) (hA c + 5) (svO (ud (ud g (hA c + 3) 1) (13 + f) (g (13 + f) + 1)) f (g (hA c + 1)))) (hA c + 4) (valO (ud (ud (ud g (hA c + 3) 1) (13 + f) (g (13 + f) + 1)) (hA c + 5) (svO (ud (ud g (hA c + 3) 1) (13 + f) (g (13 + f) + 1)) f (g (hA c + 1)))) (svO (ud (ud g (hA c + 3) 1) (13 + f) (g (13 + f) + 1)) f (g (hA c + 1))))) (hA c + 6) 0)))) :
    Wp X kX7_doLook 199 [some (vR p), some (vI c), some (vI (hA c)), some (vI (g (hA c + 1))), some (vI (g (hA c + 0))), some (vI z), some e, some (vI r), none] [vI f] (h.set q (oI 1014 (ud g (hA c + 3) 1))) b Q := by
  have hR := hB.r hBB
  have hb1 := hA_b hc
  refine wp_istore (L' := [some (vR p), some (vI c), some (vI (hA c)), some (vI (g (hA c + 1))), some (vI (g (hA c + 0))), some (vI z), some (e), some (vI r), some (vI f)]) dX7_doLook_199 (by decide) rfl ?_
  refine wp_aload_n dX7_doLook_201 rfl ?_
  refine sa_get hS dX7_doLook_202 fX7_9 ?_
  refine wp_bipush dX7_doLook_205 rfl ?_
  refine wp_iload dX7_doLook_207 rfl ?_
  refine wp_iadd dX7_doLook_209 ?_
  refine wp_dup2 dX7_doLook_210 rfl rfl ?_
  refine sa_ld (v := g (13 + f)) hS dX7_doLook_211 (by decide) (by omega) (by rw [ud_ne (by omega)]) ?_
  refine wp_iconst dX7_doLook_212 ?_
  refine wp_iadd dX7_doLook_213 ?_
  refine sa_st hS dX7_doLook_214 (by decide) (by omega) ?_
  refine wp_aload_n dX7_doLook_215 rfl ?_
  refine sa_get hS dX7_doLook_216 fX7_9 ?_
  refine wp_iload_n dX7_doLook_219 rfl ?_
  refine wp_iconst dX7_doLook_220 ?_
  refine wp_iadd dX7_doLook_221 ?_
  refine wp_aload_n dX7_doLook_222 rfl ?_
  refine wp_iload dX7_doLook_223 rfl ?_
  refine wp_iload_n dX7_doLook_225 rfl ?_
  refine sa_i2 hS dX7_doLook_226 VX7_storeVersion lX7_125 (rq0 rfl rfl) (Nat.le_of_ble_eq_true rfl) (C_storeVersion hS (rg_ud (rg_ud hR (by first | assumption | exact hR _ | exact bI_r _ | exact r32_1 hB hBB _ | exact r32_2 hB hBB _ _ | (unfold r32; omega))) (by first | assumption | exact hR _ | exact bI_r _ | exact r32_1 hB hBB _ | exact r32_2 hB hBB _ _ | (unfold r32; omega))) (by omega) (by first | assumption | exact hR _ | exact bI_r _ | exact r32_1 hB hBB _ | exact r32_2 hB hBB _ _ | (unfold r32; omega)) (by rw [ud_ne (by omega), ud_ne (by omega)]; exact hm) (by rw [ud_ne (by omega), ud_ne (by omega)]; exact hpl _ hf) ?_)
  dsimp only [pushR]
  have hvb := svO_b (g := ud (ud g (hA c + 3) 1) (13 + f) (g (13 + f) + 1)) (r := f) (k := g (hA c + 1)) (by rw [ud_ne (by omega), ud_ne (by omega)]; exact hm) (by rw [ud_ne (by omega), ud_ne (by omega)]; exact hpl _ hf)
  generalize svO (ud (ud g (hA c + 3) 1) (13 + f) (g (13 + f) + 1)) f (g (hA c + 1)) = v at hQ hvb ⊢
  refine sa_st hS dX7_doLook_229 (by decide) (by omega) ?_
  refine wp_aload_n dX7_doLook_230 rfl ?_
  refine sa_get hS dX7_doLook_231 fX7_9 ?_
  refine wp_iload_n dX7_doLook_234 rfl ?_
  refine wp_iconst dX7_doLook_235 ?_
  refine wp_iadd dX7_doLook_236 ?_
  refine wp_aload_n dX7_doLook_237 rfl ?_
  refine wp_aload_n dX7_doLook_238 rfl ?_
  refine sa_get hS dX7_doLook_239 fX7_9 ?_
  refine wp_iload_n dX7_doLook_242 rfl ?_
  refine wp_iconst dX7_doLook_243 ?_
  refine wp_iadd dX7_doLook_244 ?_
  refine sa_ld (v := v) hS dX7_doLook_245 (by decide) (by omega) (by rw [ud_eq]) ?_
  refine sa_i1 hS dX7_doLook_246 VX7_valueOf lX7_128 (rq0 rfl rfl) (Nat.le_of_ble_eq_true rfl) (C_valueOf hS hvb ?_)
  dsimp only [pushR]
  refine sa_st hS dX7_doLook_249 (by decide) (by omega) ?_
  refine wp_aload_n dX7_doLook_250 rfl ?_
  refine sa_get hS dX7_doLook_251 fX7_9 ?_
  refine wp_iload_n dX7_doLook_254 rfl ?_
  refine wp_bipush dX7_doLook_255 rfl ?_
  refine wp_iadd dX7_doLook_257 ?_
  refine wp_iconst dX7_doLook_258 ?_
  refine sa_st hS dX7_doLook_259 (by decide) (by omega) ?_
  refine wp_aload_n dX7_doLook_260 rfl ?_
  refine sa_get hS dX7_doLook_261 fX7_9 ?_
  refine wp_iload_n dX7_doLook_264 rfl ?_
  refine wp_iconst dX7_doLook_265 ?_
  refine wp_iadd dX7_doLook_266 ?_
  refine sa_ld (v := valO (ud (ud (ud g (hA c + 3) 1) (13 + f) (g (13 + f) + 1)) (hA c + 5) v) v) hS dX7_doLook_267 (by decide) (by omega) (by rw [ud_ne (by omega), ud_eq]) ?_
  exact wp_iret dX7_doLook_268 rfl hQ
set_option maxHeartbeats 4000000 in
theorem sx_look {c z : Int} {b : Nat × Nat} (hS : SA 7 p q h) (hB : Bd B g) (hBB : B ≤ 1000000000) (hc : 0 ≤ c ∧ c < 6) (hk : 0 ≤ g (hA c + 1) ∧ g (hA c + 1) < 10) (hG : 0 ≤ g (hA c + 0) ∧ g (hA c + 0) < 6) (hm : 0 ≤ g 2 ∧ g 2 ≤ 60) (hpl : ∀ r, 0 ≤ r ∧ r < 3 → 0 ≤ g (10 + r) ∧ g (10 + r) ≤ 60) (hz : z = besO (g (hA c + 0))) (hk1 : g (hA c + 1) ≠ -1) (hQ : Q (some (vI (spLook g c).1)) (h.set q (oI 1014 (spLook g c).2))) : Wp X kX7_doLook 57 [some (vR p), some (vI c), some (vI (hA c)), some (vI (g (hA c + 1))), some (vI (g (hA c + 0))), some (vI z), some (vI (eA z (g (hA c + 1)))), none, none] [] (h.set q (oI 1014 g)) b Q := by
  have hR := hB.r hBB
  have hb1 := hA_b hc
  have hzb : 0 ≤ z ∧ z < 6 := by subst hz; unfold besO; split <;> omega
  have hb2 := eA_b hzb hk
  have hb3 := eA_b hG hk
  simp only [spLook, ← hz, if_neg hk1] at hQ
  refine wp_aload_n dX7_doLook_57 rfl ?_
  refine sa_get hS dX7_doLook_58 fX7_9 ?_
  refine wp_iload_n dX7_doLook_61 rfl ?_
  refine wp_iconst dX7_doLook_62 ?_
  refine wp_iadd dX7_doLook_63 ?_
  refine wp_iconst dX7_doLook_64 ?_
  refine sa_st hS dX7_doLook_65 (by decide) (by omega) ?_
  refine wp_aload_n dX7_doLook_66 rfl ?_
  refine sa_get hS dX7_doLook_67 fX7_9 ?_
  refine wp_sipush dX7_doLook_70 rfl ?_
  refine wp_iload dX7_doLook_73 rfl ?_
  refine wp_iadd dX7_doLook_75 ?_
  refine sa_ld (v := g (216 + g (hA c + 0))) hS dX7_doLook_76 (by decide) (by omega) (by rw [ud_ne (by omega)]) ?_
  refine wp_iconst dX7_doLook_77 ?_
  refine wp_icmp_ne 168 dX7_doLook_78 rfl (by first | assumption | exact hR _ | exact bI_r _ | exact r32_1 hB hBB _ | exact r32_2 hB hBB _ _ | (unfold r32; omega)) ⟨by omega, by omega⟩ (fun c78 => ?_) (fun c78 => ?_)
  · refine wp_iload dX7_doLook_168 rfl ?_
    refine wp_iconst dX7_doLook_170 ?_
    refine wp_idivn dX7_doLook_171 (by first | assumption | exact hR _ | exact bI_r _ | exact r32_1 hB hBB _ | exact r32_2 hB hBB _ _ | (unfold r32; omega)) ⟨by omega, by omega⟩ (by omega) (by omega) ?_
    refine wp_istore (L' := [some (vR p), some (vI c), some (vI (hA c)), some (vI (g (hA c + 1))), some (vI (g (hA c + 0))), some (vI z), some (vI (eA z (g (hA c + 1)))), some (vI ((g (hA c + 0)) / 2)), none]) dX7_doLook_172 (by decide) rfl ?_
    refine wp_aload_n dX7_doLook_174 rfl ?_
    refine sa_get hS dX7_doLook_175 fX7_9 ?_
    refine wp_sipush dX7_doLook_178 rfl ?_
    refine wp_bipush dX7_doLook_181 rfl ?_
    refine wp_iload dX7_doLook_183 rfl ?_
    refine wp_imul dX7_doLook_185 ?_
    refine wp_iadd dX7_doLook_186 ?_
    refine wp_iload_n dX7_doLook_187 rfl ?_
    refine wp_iadd dX7_doLook_188 ?_
    refine sa_ld (v := g (942 + 10 * ((g (hA c + 0)) / 2) + g (hA c + 1))) hS dX7_doLook_189 (by decide) (by omega) (by rw [ud_ne (by omega)]) ?_
    refine wp_if_le 197 dX7_doLook_190 rfl (by first | assumption | exact hR _ | exact bI_r _ | exact r32_1 hB hBB _ | exact r32_2 hB hBB _ _ | (unfold r32; omega)) (fun c190 => ?_) (fun c190 => ?_)
    · refine wp_iload dX7_doLook_197 rfl ?_
      exact sx_look2 hS hB hBB hc hk hG hm hpl (by omega) (by simp only [frO] at hQ; (repeat' split at hQ) <;> first | (exfalso; omega) | exact hQ)
    · refine wp_iconst dX7_doLook_193 ?_
      refine wp_goto 199 dX7_doLook_194 rfl ?_
      exact sx_look2 hS hB hBB hc hk hG hm hpl (by omega) (by simp only [frO] at hQ; (repeat' split at hQ) <;> first | (exfalso; omega) | exact hQ)
  · refine wp_aload_n dX7_doLook_81 rfl ?_
    refine sa_get hS dX7_doLook_82 fX7_9 ?_
    refine wp_sipush dX7_doLook_85 rfl ?_
    refine wp_iload dX7_doLook_88 rfl ?_
    refine wp_iadd dX7_doLook_90 ?_
    refine sa_ld (v := g (216 + z)) hS dX7_doLook_91 (by decide) (by omega) (by rw [ud_ne (by omega)]) ?_
    refine wp_if_ne 168 dX7_doLook_92 rfl (by first | assumption | exact hR _ | exact bI_r _ | exact r32_1 hB hBB _ | exact r32_2 hB hBB _ _ | (unfold r32; omega)) (fun c92 => ?_) (fun c92 => ?_)
    · refine wp_iload dX7_doLook_168 rfl ?_
      refine wp_iconst dX7_doLook_170 ?_
      refine wp_idivn dX7_doLook_171 (by first | assumption | exact hR _ | exact bI_r _ | exact r32_1 hB hBB _ | exact r32_2 hB hBB _ _ | (unfold r32; omega)) ⟨by omega, by omega⟩ (by omega) (by omega) ?_
      refine wp_istore (L' := [some (vR p), some (vI c), some (vI (hA c)), some (vI (g (hA c + 1))), some (vI (g (hA c + 0))), some (vI z), some (vI (eA z (g (hA c + 1)))), some (vI ((g (hA c + 0)) / 2)), none]) dX7_doLook_172 (by decide) rfl ?_
      refine wp_aload_n dX7_doLook_174 rfl ?_
      refine sa_get hS dX7_doLook_175 fX7_9 ?_
      refine wp_sipush dX7_doLook_178 rfl ?_
      refine wp_bipush dX7_doLook_181 rfl ?_
      refine wp_iload dX7_doLook_183 rfl ?_
      refine wp_imul dX7_doLook_185 ?_
      refine wp_iadd dX7_doLook_186 ?_
      refine wp_iload_n dX7_doLook_187 rfl ?_
      refine wp_iadd dX7_doLook_188 ?_
      refine sa_ld (v := g (942 + 10 * ((g (hA c + 0)) / 2) + g (hA c + 1))) hS dX7_doLook_189 (by decide) (by omega) (by rw [ud_ne (by omega)]) ?_
      refine wp_if_le 197 dX7_doLook_190 rfl (by first | assumption | exact hR _ | exact bI_r _ | exact r32_1 hB hBB _ | exact r32_2 hB hBB _ _ | (unfold r32; omega)) (fun c190 => ?_) (fun c190 => ?_)
      · refine wp_iload dX7_doLook_197 rfl ?_
        exact sx_look2 hS hB hBB hc hk hG hm hpl (by omega) (by simp only [frO] at hQ; (repeat' split at hQ) <;> first | (exfalso; omega) | exact hQ)
      · refine wp_iconst dX7_doLook_193 ?_
        refine wp_goto 199 dX7_doLook_194 rfl ?_
        exact sx_look2 hS hB hBB hc hk hG hm hpl (by omega) (by simp only [frO] at hQ; (repeat' split at hQ) <;> first | (exfalso; omega) | exact hQ)
    · refine wp_aload_n dX7_doLook_95 rfl ?_
      refine wp_iload dX7_doLook_96 rfl ?_
      refine sa_i1 hS dX7_doLook_98 VX7_isThere lX7_115 (rq0 rfl rfl) (Nat.le_of_ble_eq_true rfl) (C_isThere (v0 := g 0) (v1 := g (eA z (g (hA c + 1)))) hS (by omega) (by rw [ud_ne (by omega)]) (by rw [ud_ne (by omega)]) (by first | assumption | exact hR _ | exact bI_r _ | exact r32_1 hB hBB _ | exact r32_2 hB hBB _ _ | (unfold r32; omega)) (by first | assumption | exact hR _ | exact bI_r _ | exact r32_1 hB hBB _ | exact r32_2 hB hBB _ _ | (unfold r32; omega)) ?_)
      dsimp only [pushR]
      refine wp_beq 168 dX7_doLook_101 rfl (fun c101 => ?_) (fun c101 => ?_)
      · refine wp_iload dX7_doLook_168 rfl ?_
        refine wp_iconst dX7_doLook_170 ?_
        refine wp_idivn dX7_doLook_171 (by first | assumption | exact hR _ | exact bI_r _ | exact r32_1 hB hBB _ | exact r32_2 hB hBB _ _ | (unfold r32; omega)) ⟨by omega, by omega⟩ (by omega) (by omega) ?_
        refine wp_istore (L' := [some (vR p), some (vI c), some (vI (hA c)), some (vI (g (hA c + 1))), some (vI (g (hA c + 0))), some (vI z), some (vI (eA z (g (hA c + 1)))), some (vI ((g (hA c + 0)) / 2)), none]) dX7_doLook_172 (by decide) rfl ?_
        refine wp_aload_n dX7_doLook_174 rfl ?_
        refine sa_get hS dX7_doLook_175 fX7_9 ?_
        refine wp_sipush dX7_doLook_178 rfl ?_
        refine wp_bipush dX7_doLook_181 rfl ?_
        refine wp_iload dX7_doLook_183 rfl ?_
        refine wp_imul dX7_doLook_185 ?_
        refine wp_iadd dX7_doLook_186 ?_
        refine wp_iload_n dX7_doLook_187 rfl ?_
        refine wp_iadd dX7_doLook_188 ?_
        refine sa_ld (v := g (942 + 10 * ((g (hA c + 0)) / 2) + g (hA c + 1))) hS dX7_doLook_189 (by decide) (by omega) (by rw [ud_ne (by omega)]) ?_
        refine wp_if_le 197 dX7_doLook_190 rfl (by first | assumption | exact hR _ | exact bI_r _ | exact r32_1 hB hBB _ | exact r32_2 hB hBB _ _ | (unfold r32; omega)) (fun c190 => ?_) (fun c190 => ?_)
        · refine wp_iload dX7_doLook_197 rfl ?_
          exact sx_look2 hS hB hBB hc hk hG hm hpl (by omega) (by simp only [frO] at hQ; (repeat' split at hQ) <;> first | (exfalso; omega) | exact hQ)
        · refine wp_iconst dX7_doLook_193 ?_
          refine wp_goto 199 dX7_doLook_194 rfl ?_
          exact sx_look2 hS hB hBB hc hk hG hm hpl (by omega) (by simp only [frO] at hQ; (repeat' split at hQ) <;> first | (exfalso; omega) | exact hQ)
      · refine wp_aload_n dX7_doLook_104 rfl ?_
        refine sa_get hS dX7_doLook_105 fX7_9 ?_
        refine wp_iload_n dX7_doLook_108 rfl ?_
        refine wp_iconst dX7_doLook_109 ?_
        refine wp_iadd dX7_doLook_110 ?_
        refine wp_aload_n dX7_doLook_111 rfl ?_
        refine sa_get hS dX7_doLook_112 fX7_9 ?_
        refine wp_iload dX7_doLook_115 rfl ?_
        refine wp_iconst dX7_doLook_117 ?_
        refine wp_iadd dX7_doLook_118 ?_
        refine sa_ld (v := g (eA z (g (hA c + 1)) + 1)) hS dX7_doLook_119 (by decide) (by omega) (by rw [ud_ne (by omega)]) ?_
        refine sa_st hS dX7_doLook_120 (by decide) (by omega) ?_
        refine wp_aload_n dX7_doLook_121 rfl ?_
        refine sa_get hS dX7_doLook_122 fX7_9 ?_
        refine wp_iload_n dX7_doLook_125 rfl ?_
        refine wp_iconst dX7_doLook_126 ?_
        refine wp_iadd dX7_doLook_127 ?_
        refine wp_aload_n dX7_doLook_128 rfl ?_
        refine sa_get hS dX7_doLook_129 fX7_9 ?_
        refine wp_iload dX7_doLook_132 rfl ?_
        refine wp_iconst dX7_doLook_134 ?_
        refine wp_iadd dX7_doLook_135 ?_
        refine sa_ld (v := g (eA z (g (hA c + 1)) + 2)) hS dX7_doLook_136 (by decide) (by omega) (by rw [ud_ne (by omega), ud_ne (by omega)]) ?_
        refine sa_st hS dX7_doLook_137 (by decide) (by omega) ?_
        refine wp_aload_n dX7_doLook_138 rfl ?_
        refine sa_get hS dX7_doLook_139 fX7_9 ?_
        refine wp_iload_n dX7_doLook_142 rfl ?_
        refine wp_bipush dX7_doLook_143 rfl ?_
        refine wp_iadd dX7_doLook_145 ?_
        refine wp_iconst dX7_doLook_146 ?_
        refine sa_st hS dX7_doLook_147 (by decide) (by omega) ?_
        refine wp_aload_n dX7_doLook_148 rfl ?_
        refine sa_get hS dX7_doLook_149 fX7_9 ?_
        refine wp_bipush dX7_doLook_152 rfl ?_
        refine wp_dup2 dX7_doLook_154 rfl rfl ?_
        refine sa_ld (v := g 22) hS dX7_doLook_155 (by decide) (by omega) (by rw [ud_ne (by omega), ud_ne (by omega), ud_ne (by omega), ud_ne (by omega)]) ?_
        refine wp_iconst dX7_doLook_156 ?_
        refine wp_iadd dX7_doLook_157 ?_
        refine sa_st hS dX7_doLook_158 (by decide) (by omega) ?_
        refine wp_aload_n dX7_doLook_159 rfl ?_
        refine sa_get hS dX7_doLook_160 fX7_9 ?_
        refine wp_iload_n dX7_doLook_163 rfl ?_
        refine wp_iconst dX7_doLook_164 ?_
        refine wp_iadd dX7_doLook_165 ?_
        refine sa_ld (v := g (eA z (g (hA c + 1)) + 1)) hS dX7_doLook_166 (by decide) (by omega) (by rw [ud_ne (by omega), ud_ne (by omega), ud_ne (by omega), ud_eq]) ?_
        exact wp_iret dX7_doLook_167 rfl (by (repeat' split at hQ) <;> first | (exfalso; omega) | exact hQ)
set_option maxHeartbeats 2000000 in
theorem C_doLook {c : Int} (hS : SA 7 p q h) (hB : Bd B g) (hBB : B ≤ 1000000000) (hc : 0 ≤ c ∧ c < 6) (hk : -1 ≤ g (hA c + 1) ∧ g (hA c + 1) < 10) (hG : 0 ≤ g (hA c + 0) ∧ g (hA c + 0) < 6) (hm : 0 ≤ g 2 ∧ g 2 ≤ 60) (hpl : ∀ r, 0 ≤ r ∧ r < 3 → 0 ≤ g (10 + r) ∧ g (10 + r) ≤ 60) (hQ : Q (some (vI (spLook g c).1)) (h.set q (oI 1014 (spLook g c).2))) : Cl X kX7_doLook [vR p, vI c] (h.set q (oI 1014 g)) Q := by
  refine cl_of rfl (Nat.le_of_ble_eq_true rfl) rfl ?_
  have hR := hB.r hBB
  have hb1 := hA_b hc
  refine wp_iload_n dX7_doLook_0 rfl ?_
  refine wp_is1 dX7_doLook_1 SX7_hand lX7_82 (rq0 rfl rfl) (Nat.le_of_ble_eq_true rfl) (C_hand ?_)
  dsimp only [pushR]
  refine wp_istore_n (L' := [some (vR p), some (vI c), some (vI (hA c)), none, none, none, none, none, none]) dX7_doLook_4 (by decide) rfl ?_
  refine wp_aload_n dX7_doLook_5 rfl ?_
  refine sa_get hS dX7_doLook_6 fX7_9 ?_
  refine wp_iload_n dX7_doLook_9 rfl ?_
  refine wp_iconst dX7_doLook_10 ?_
  refine wp_iadd dX7_doLook_11 ?_
  refine sa_ld (v := g (hA c + 1)) hS dX7_doLook_12 (by decide) (by omega) rfl ?_
  refine wp_istore_n (L' := [some (vR p), some (vI c), some (vI (hA c)), some (vI (g (hA c + 1))), none, none, none, none, none]) dX7_doLook_13 (by decide) rfl ?_
  refine wp_iload_n dX7_doLook_14 rfl ?_
  refine wp_iconst dX7_doLook_15 ?_
  refine wp_icmp_ne 22 dX7_doLook_16 rfl (by first | assumption | exact hR _ | exact bI_r _ | exact r32_1 hB hBB _ | exact r32_2 hB hBB _ _ | (unfold r32; omega)) ⟨by omega, by omega⟩ (fun c16 => ?_) (fun c16 => ?_)
  · refine wp_aload_n dX7_doLook_22 rfl ?_
    refine wp_iload_n dX7_doLook_23 rfl ?_
    refine sa_i1 hS dX7_doLook_24 VX7_groupOf lX7_109 (rq0 rfl rfl) (Nat.le_of_ble_eq_true rfl) (C_groupOf (v := g (hA c + 0)) hS (by omega) rfl ?_)
    dsimp only [pushR]
    refine wp_istore (L' := [some (vR p), some (vI c), some (vI (hA c)), some (vI (g (hA c + 1))), some (vI (g (hA c + 0))), none, none, none, none]) dX7_doLook_27 (by decide) rfl ?_
    refine wp_iload dX7_doLook_29 rfl ?_
    refine wp_iconst dX7_doLook_31 ?_
    refine wp_iremn dX7_doLook_32 (by first | assumption | exact hR _ | exact bI_r _ | exact r32_1 hB hBB _ | exact r32_2 hB hBB _ _ | (unfold r32; omega)) ⟨by omega, by omega⟩ (by omega) (by omega) ?_
    refine wp_if_ne 43 dX7_doLook_33 rfl (by first | assumption | exact hR _ | exact bI_r _ | exact r32_1 hB hBB _ | exact r32_2 hB hBB _ _ | (unfold r32; omega)) (fun c33 => ?_) (fun c33 => ?_)
    · refine wp_iload dX7_doLook_43 rfl ?_
      refine wp_iconst dX7_doLook_45 ?_
      refine wp_isub dX7_doLook_46 ?_
      refine wp_istore (L' := [some (vR p), some (vI c), some (vI (hA c)), some (vI (g (hA c + 1))), some (vI (g (hA c + 0))), some (vI (g (hA c + 0) - 1)), none, none, none]) dX7_doLook_47 (by decide) rfl ?_
      refine wp_iload dX7_doLook_49 rfl ?_
      refine wp_iload_n dX7_doLook_51 rfl ?_
      refine wp_is2 dX7_doLook_52 SX7_entryAt lX7_112 (rq0 rfl rfl) (Nat.le_of_ble_eq_true rfl) (C_entryAt ?_)
      dsimp only [pushR]
      refine wp_istore (L' := [some (vR p), some (vI c), some (vI (hA c)), some (vI (g (hA c + 1))), some (vI (g (hA c + 0))), some (vI (g (hA c + 0) - 1)), some (vI (eA (g (hA c + 0) - 1) (g (hA c + 1)))), none, none]) dX7_doLook_55 (by decide) rfl ?_
      exact sx_look hS hB hBB hc (by omega) hG hm hpl (by unfold besO; first | rw [if_pos (by omega)] | rw [if_neg (by omega)]) c16 hQ
    · refine wp_iload dX7_doLook_36 rfl ?_
      refine wp_iconst dX7_doLook_38 ?_
      refine wp_iadd dX7_doLook_39 ?_
      refine wp_goto 47 dX7_doLook_40 rfl ?_
      refine wp_istore (L' := [some (vR p), some (vI c), some (vI (hA c)), some (vI (g (hA c + 1))), some (vI (g (hA c + 0))), some (vI (g (hA c + 0) + 1)), none, none, none]) dX7_doLook_47 (by decide) rfl ?_
      refine wp_iload dX7_doLook_49 rfl ?_
      refine wp_iload_n dX7_doLook_51 rfl ?_
      refine wp_is2 dX7_doLook_52 SX7_entryAt lX7_112 (rq0 rfl rfl) (Nat.le_of_ble_eq_true rfl) (C_entryAt ?_)
      dsimp only [pushR]
      refine wp_istore (L' := [some (vR p), some (vI c), some (vI (hA c)), some (vI (g (hA c + 1))), some (vI (g (hA c + 0))), some (vI (g (hA c + 0) + 1)), some (vI (eA (g (hA c + 0) + 1) (g (hA c + 1)))), none, none]) dX7_doLook_55 (by decide) rfl ?_
      exact sx_look hS hB hBB hc (by omega) hG hm hpl (by unfold besO; first | rw [if_pos (by omega)] | rw [if_neg (by omega)]) c16 hQ
  · refine wp_bipush dX7_doLook_19 rfl ?_
    exact wp_iret dX7_doLook_21 rfl (by simp only [spLook] at hQ; (repeat' split at hQ) <;> first | (exfalso; omega) | exact hQ)
def del1 (g : Int → Int) (a k : Int) : Int → Int := if g 0 < g (eA a k) then ud (ud (ud g (oA a k) (if g 5 = 0 then 0 else g 0 + g 5)) (oA a k + 1) (g (eA a k + 1))) 24 (g 24 + 1) else g
def del2 (g : Int → Int) (a k : Int) : Int → Int :=
  let g3 := ud (ud (ud g (eA a k) 0) 25 (g 25 + (if g 0 < g (lA a k) then 1 else 0))) (lA a k) 0
  if g (216 + a) = 1 then ud g3 (dA a k) (if g 7 = 0 then 0 else g 0 + g 7) else g3
def spDel (g : Int → Int) (a k : Int) : Int → Int := del2 (del1 g a k) a k
set_option maxHeartbeats 4000000 in
theorem sx_del {a k : Int} {b : Nat × Nat} (hS : SA 7 p q h) (hR : ∀ j, r32 (g j)) (ha : 0 ≤ a ∧ a < 6) (hk : 0 ≤ k ∧ k < 10) (hQ : Q none (h.set q (oI 1014 (del2 g a k)))) : Wp X kX7_deletes 81 [some (vR p), some (vI a), some (vI k), some (vI (eA a k))] [] (h.set q (oI 1014 g)) b Q := by
  have hb2 := eA_b ha hk
  have hb3 := oA_b ha hk
  have hb4 := lA_b ha hk
  have hb5 := dA_b ha hk
  refine wp_aload_n dX7_deletes_81 rfl ?_
  refine sa_get hS dX7_deletes_82 fX7_9 ?_
  refine wp_iload_n dX7_deletes_85 rfl ?_
  refine wp_iconst dX7_deletes_86 ?_
  refine sa_st hS dX7_deletes_87 (by decide) (by omega) ?_
  refine wp_aload_n dX7_deletes_88 rfl ?_
  refine sa_get hS dX7_deletes_89 fX7_9 ?_
  refine wp_bipush dX7_deletes_92 rfl ?_
  refine wp_dup2 dX7_deletes_94 rfl rfl ?_
  refine sa_ld (v := g 25) hS dX7_deletes_95 (by decide) (by omega) (by rw [ud_ne (by omega)]) ?_
  refine wp_aload_n dX7_deletes_96 rfl ?_
  refine wp_iload_n dX7_deletes_97 rfl ?_
  refine wp_iload_n dX7_deletes_98 rfl ?_
  refine wp_is2 dX7_deletes_99 SX7_leaseAt lX7_119 (rq0 rfl rfl) (Nat.le_of_ble_eq_true rfl) (C_leaseAt ?_)
  dsimp only [pushR]
  refine sa_i1 hS dX7_deletes_102 VX7_isThere lX7_115 (rq0 rfl rfl) (Nat.le_of_ble_eq_true rfl) (C_isThere (v0 := g 0) (v1 := g (lA a k)) hS (by omega) (by rw [ud_ne (by omega)]) (by rw [ud_ne (by omega)]) (by first | assumption | exact hR _ | exact bI_r _ | exact r32_1 hB hBB _ | exact r32_2 hB hBB _ _ | (unfold r32; omega)) (by first | assumption | exact hR _ | exact bI_r _ | exact r32_1 hB hBB _ | exact r32_2 hB hBB _ _ | (unfold r32; omega)) ?_)
  dsimp only [pushR]
  refine wp_beq 112 dX7_deletes_105 rfl (fun c105 => ?_) (fun c105 => ?_)
  · refine wp_iconst dX7_deletes_112 ?_
    refine wp_iadd dX7_deletes_113 ?_
    refine sa_st hS dX7_deletes_114 (by decide) (by omega) ?_
    refine wp_aload_n dX7_deletes_115 rfl ?_
    refine sa_get hS dX7_deletes_116 fX7_9 ?_
    refine wp_iload_n dX7_deletes_119 rfl ?_
    refine wp_iload_n dX7_deletes_120 rfl ?_
    refine wp_is2 dX7_deletes_121 SX7_leaseAt lX7_119 (rq0 rfl rfl) (Nat.le_of_ble_eq_true rfl) (C_leaseAt ?_)
    dsimp only [pushR]
    refine wp_iconst dX7_deletes_124 ?_
    refine sa_st hS dX7_deletes_125 (by decide) (by omega) ?_
    refine wp_aload_n dX7_deletes_126 rfl ?_
    refine sa_get hS dX7_deletes_127 fX7_9 ?_
    refine wp_sipush dX7_deletes_130 rfl ?_
    refine wp_iload_n dX7_deletes_133 rfl ?_
    refine wp_iadd dX7_deletes_134 ?_
    refine sa_ld (v := g (216 + a)) hS dX7_deletes_135 (by decide) (by omega) (by rw [ud_ne (by omega), ud_ne (by omega), ud_ne (by omega)]) ?_
    refine wp_iconst dX7_deletes_136 ?_
    refine wp_icmp_ne 178 dX7_deletes_137 rfl (by first | assumption | exact hR _ | exact bI_r _ | exact r32_1 hB hBB _ | exact r32_2 hB hBB _ _ | (unfold r32; omega)) ⟨by omega, by omega⟩ (fun c137 => ?_) (fun c137 => ?_)
    · exact wp_ret dX7_deletes_178 rfl (by simp only [del2] at hQ; (repeat' split at hQ) <;> first | (exfalso; omega) | exact hQ)
    · refine wp_aload_n dX7_deletes_140 rfl ?_
      refine sa_get hS dX7_deletes_141 fX7_9 ?_
      refine wp_iload_n dX7_deletes_144 rfl ?_
      refine wp_iload_n dX7_deletes_145 rfl ?_
      refine wp_is2 dX7_deletes_146 SX7_holdAt lX7_137 (rq0 rfl rfl) (Nat.le_of_ble_eq_true rfl) (C_holdAt ?_)
      dsimp only [pushR]
      refine wp_aload_n dX7_deletes_149 rfl ?_
      refine sa_get hS dX7_deletes_150 fX7_9 ?_
      refine wp_bipush dX7_deletes_153 rfl ?_
      refine sa_ld (v := g 7) hS dX7_deletes_155 (by decide) (by omega) (by rw [ud_ne (by omega), ud_ne (by omega), ud_ne (by omega)]) ?_
      refine wp_if_ne 163 dX7_deletes_156 rfl (by first | assumption | exact hR _ | exact bI_r _ | exact r32_1 hB hBB _ | exact r32_2 hB hBB _ _ | (unfold r32; omega)) (fun c156 => ?_) (fun c156 => ?_)
      · refine wp_aload_n dX7_deletes_163 rfl ?_
        refine sa_get hS dX7_deletes_164 fX7_9 ?_
        refine wp_iconst dX7_deletes_167 ?_
        refine sa_ld (v := g 0) hS dX7_deletes_168 (by decide) (by omega) (by rw [ud_ne (by omega), ud_ne (by omega), ud_ne (by omega)]) ?_
        refine wp_aload_n dX7_deletes_169 rfl ?_
        refine sa_get hS dX7_deletes_170 fX7_9 ?_
        refine wp_bipush dX7_deletes_173 rfl ?_
        refine sa_ld (v := g 7) hS dX7_deletes_175 (by decide) (by omega) (by rw [ud_ne (by omega), ud_ne (by omega), ud_ne (by omega)]) ?_
        refine wp_iadd dX7_deletes_176 ?_
        refine sa_st hS dX7_deletes_177 (by decide) (by omega) ?_
        exact wp_ret dX7_deletes_178 rfl (by simp only [del2] at hQ; (repeat' split at hQ) <;> first | (exfalso; omega) | exact hQ)
      · refine wp_iconst dX7_deletes_159 ?_
        refine wp_goto 177 dX7_deletes_160 rfl ?_
        refine sa_st hS dX7_deletes_177 (by decide) (by omega) ?_
        exact wp_ret dX7_deletes_178 rfl (by simp only [del2] at hQ; (repeat' split at hQ) <;> first | (exfalso; omega) | exact hQ)
  · refine wp_iconst dX7_deletes_108 ?_
    refine wp_goto 113 dX7_deletes_109 rfl ?_
    refine wp_iadd dX7_deletes_113 ?_
    refine sa_st hS dX7_deletes_114 (by decide) (by omega) ?_
    refine wp_aload_n dX7_deletes_115 rfl ?_
    refine sa_get hS dX7_deletes_116 fX7_9 ?_
    refine wp_iload_n dX7_deletes_119 rfl ?_
    refine wp_iload_n dX7_deletes_120 rfl ?_
    refine wp_is2 dX7_deletes_121 SX7_leaseAt lX7_119 (rq0 rfl rfl) (Nat.le_of_ble_eq_true rfl) (C_leaseAt ?_)
    dsimp only [pushR]
    refine wp_iconst dX7_deletes_124 ?_
    refine sa_st hS dX7_deletes_125 (by decide) (by omega) ?_
    refine wp_aload_n dX7_deletes_126 rfl ?_
    refine sa_get hS dX7_deletes_127 fX7_9 ?_
    refine wp_sipush dX7_deletes_130 rfl ?_
    refine wp_iload_n dX7_deletes_133 rfl ?_
    refine wp_iadd dX7_deletes_134 ?_
    refine sa_ld (v := g (216 + a)) hS dX7_deletes_135 (by decide) (by omega) (by rw [ud_ne (by omega), ud_ne (by omega), ud_ne (by omega)]) ?_
    refine wp_iconst dX7_deletes_136 ?_
    refine wp_icmp_ne 178 dX7_deletes_137 rfl (by first | assumption | exact hR _ | exact bI_r _ | exact r32_1 hB hBB _ | exact r32_2 hB hBB _ _ | (unfold r32; omega)) ⟨by omega, by omega⟩ (fun c137 => ?_) (fun c137 => ?_)
    · exact wp_ret dX7_deletes_178 rfl (by simp only [del2] at hQ; (repeat' split at hQ) <;> first | (exfalso; omega) | exact hQ)
    · refine wp_aload_n dX7_deletes_140 rfl ?_
      refine sa_get hS dX7_deletes_141 fX7_9 ?_
      refine wp_iload_n dX7_deletes_144 rfl ?_
      refine wp_iload_n dX7_deletes_145 rfl ?_
      refine wp_is2 dX7_deletes_146 SX7_holdAt lX7_137 (rq0 rfl rfl) (Nat.le_of_ble_eq_true rfl) (C_holdAt ?_)
      dsimp only [pushR]
      refine wp_aload_n dX7_deletes_149 rfl ?_
      refine sa_get hS dX7_deletes_150 fX7_9 ?_
      refine wp_bipush dX7_deletes_153 rfl ?_
      refine sa_ld (v := g 7) hS dX7_deletes_155 (by decide) (by omega) (by rw [ud_ne (by omega), ud_ne (by omega), ud_ne (by omega)]) ?_
      refine wp_if_ne 163 dX7_deletes_156 rfl (by first | assumption | exact hR _ | exact bI_r _ | exact r32_1 hB hBB _ | exact r32_2 hB hBB _ _ | (unfold r32; omega)) (fun c156 => ?_) (fun c156 => ?_)
      · refine wp_aload_n dX7_deletes_163 rfl ?_
        refine sa_get hS dX7_deletes_164 fX7_9 ?_
        refine wp_iconst dX7_deletes_167 ?_
        refine sa_ld (v := g 0) hS dX7_deletes_168 (by decide) (by omega) (by rw [ud_ne (by omega), ud_ne (by omega), ud_ne (by omega)]) ?_
        refine wp_aload_n dX7_deletes_169 rfl ?_
        refine sa_get hS dX7_deletes_170 fX7_9 ?_
        refine wp_bipush dX7_deletes_173 rfl ?_
        refine sa_ld (v := g 7) hS dX7_deletes_175 (by decide) (by omega) (by rw [ud_ne (by omega), ud_ne (by omega), ud_ne (by omega)]) ?_
        refine wp_iadd dX7_deletes_176 ?_
        refine sa_st hS dX7_deletes_177 (by decide) (by omega) ?_
        exact wp_ret dX7_deletes_178 rfl (by simp only [del2] at hQ; (repeat' split at hQ) <;> first | (exfalso; omega) | exact hQ)
      · refine wp_iconst dX7_deletes_159 ?_
        refine wp_goto 177 dX7_deletes_160 rfl ?_
        refine sa_st hS dX7_deletes_177 (by decide) (by omega) ?_
        exact wp_ret dX7_deletes_178 rfl (by simp only [del2] at hQ; (repeat' split at hQ) <;> first | (exfalso; omega) | exact hQ)
set_option maxHeartbeats 2000000 in
theorem C_deletes {a k : Int} (hS : SA 7 p q h) (hB : Bd B g) (hBB : B ≤ 1000000000) (ha : 0 ≤ a ∧ a < 6) (hk : 0 ≤ k ∧ k < 10) (hQ : Q none (h.set q (oI 1014 (spDel g a k)))) : Cl X kX7_deletes [vR p, vI a, vI k] (h.set q (oI 1014 g)) Q := by
  refine cl_of rfl (Nat.le_of_ble_eq_true rfl) rfl ?_
  have hR := hB.r hBB
  have hb2 := eA_b ha hk
  have hb3 := oA_b ha hk
  have hb4 := lA_b ha hk
  refine wp_iload_n dX7_deletes_0 rfl ?_
  refine wp_iload_n dX7_deletes_1 rfl ?_
  refine wp_is2 dX7_deletes_2 SX7_entryAt lX7_112 (rq0 rfl rfl) (Nat.le_of_ble_eq_true rfl) (C_entryAt ?_)
  dsimp only [pushR]
  refine wp_istore_n (L' := [some (vR p), some (vI a), some (vI k), some (vI (eA a k))]) dX7_deletes_5 (by decide) rfl ?_
  refine wp_aload_n dX7_deletes_6 rfl ?_
  refine wp_iload_n dX7_deletes_7 rfl ?_
  refine sa_i1 hS dX7_deletes_8 VX7_isThere lX7_115 (rq0 rfl rfl) (Nat.le_of_ble_eq_true rfl) (C_isThere (v0 := g 0) (v1 := g (eA a k)) hS (by omega) rfl rfl (by first | assumption | exact hR _ | exact bI_r _ | exact r32_1 hB hBB _ | exact r32_2 hB hBB _ _ | (unfold r32; omega)) (by first | assumption | exact hR _ | exact bI_r _ | exact r32_1 hB hBB _ | exact r32_2 hB hBB _ _ | (unfold r32; omega)) ?_)
  dsimp only [pushR]
  refine wp_beq 81 dX7_deletes_11 rfl (fun c11 => ?_) (fun c11 => ?_)
  · exact sx_del hS (by first | exact hR | exact rg_ud (rg_ud (rg_ud hR (by have := hB 0; have := hB 5; unfold r32; omega)) (hR _)) (by have := hB 24; unfold r32; omega)) ha hk (by unfold spDel del1 at hQ; (repeat' split at hQ) <;> first | (exfalso; omega) | exact hQ)
  · refine wp_aload_n dX7_deletes_14 rfl ?_
    refine sa_get hS dX7_deletes_15 fX7_9 ?_
    refine wp_iload_n dX7_deletes_18 rfl ?_
    refine wp_iload_n dX7_deletes_19 rfl ?_
    refine wp_is2 dX7_deletes_20 SX7_oldAt lX7_122 (rq0 rfl rfl) (Nat.le_of_ble_eq_true rfl) (C_oldAt ?_)
    dsimp only [pushR]
    refine wp_aload_n dX7_deletes_23 rfl ?_
    refine sa_get hS dX7_deletes_24 fX7_9 ?_
    refine wp_iconst dX7_deletes_27 ?_
    refine sa_ld (v := g 5) hS dX7_deletes_28 (by decide) (by omega) rfl ?_
    refine wp_if_ne 36 dX7_deletes_29 rfl (by first | assumption | exact hR _ | exact bI_r _ | exact r32_1 hB hBB _ | exact r32_2 hB hBB _ _ | (unfold r32; omega)) (fun c29 => ?_) (fun c29 => ?_)
    · refine wp_aload_n dX7_deletes_36 rfl ?_
      refine sa_get hS dX7_deletes_37 fX7_9 ?_
      refine wp_iconst dX7_deletes_40 ?_
      refine sa_ld (v := g 0) hS dX7_deletes_41 (by decide) (by omega) rfl ?_
      refine wp_aload_n dX7_deletes_42 rfl ?_
      refine sa_get hS dX7_deletes_43 fX7_9 ?_
      refine wp_iconst dX7_deletes_46 ?_
      refine sa_ld (v := g 5) hS dX7_deletes_47 (by decide) (by omega) rfl ?_
      refine wp_iadd dX7_deletes_48 ?_
      refine sa_st hS dX7_deletes_49 (by decide) (by omega) ?_
      refine wp_aload_n dX7_deletes_50 rfl ?_
      refine sa_get hS dX7_deletes_51 fX7_9 ?_
      refine wp_iload_n dX7_deletes_54 rfl ?_
      refine wp_iload_n dX7_deletes_55 rfl ?_
      refine wp_is2 dX7_deletes_56 SX7_oldAt lX7_122 (rq0 rfl rfl) (Nat.le_of_ble_eq_true rfl) (C_oldAt ?_)
      dsimp only [pushR]
      refine wp_iconst dX7_deletes_59 ?_
      refine wp_iadd dX7_deletes_60 ?_
      refine wp_aload_n dX7_deletes_61 rfl ?_
      refine sa_get hS dX7_deletes_62 fX7_9 ?_
      refine wp_iload_n dX7_deletes_65 rfl ?_
      refine wp_iconst dX7_deletes_66 ?_
      refine wp_iadd dX7_deletes_67 ?_
      refine sa_ld (v := g (eA a k + 1)) hS dX7_deletes_68 (by decide) (by omega) (by rw [ud_ne (by omega)]) ?_
      refine sa_st hS dX7_deletes_69 (by decide) (by omega) ?_
      refine wp_aload_n dX7_deletes_70 rfl ?_
      refine sa_get hS dX7_deletes_71 fX7_9 ?_
      refine wp_bipush dX7_deletes_74 rfl ?_
      refine wp_dup2 dX7_deletes_76 rfl rfl ?_
      refine sa_ld (v := g 24) hS dX7_deletes_77 (by decide) (by omega) (by rw [ud_ne (by omega), ud_ne (by omega)]) ?_
      refine wp_iconst dX7_deletes_78 ?_
      refine wp_iadd dX7_deletes_79 ?_
      refine sa_st hS dX7_deletes_80 (by decide) (by omega) ?_
      exact sx_del hS (by first | exact hR | exact rg_ud (rg_ud (rg_ud hR (by have := hB 0; have := hB 5; unfold r32; omega)) (hR _)) (by have := hB 24; unfold r32; omega)) ha hk (by unfold spDel del1 at hQ; (repeat' split at hQ) <;> first | (exfalso; omega) | exact hQ)
    · refine wp_iconst dX7_deletes_32 ?_
      refine wp_goto 49 dX7_deletes_33 rfl ?_
      refine sa_st hS dX7_deletes_49 (by decide) (by omega) ?_
      refine wp_aload_n dX7_deletes_50 rfl ?_
      refine sa_get hS dX7_deletes_51 fX7_9 ?_
      refine wp_iload_n dX7_deletes_54 rfl ?_
      refine wp_iload_n dX7_deletes_55 rfl ?_
      refine wp_is2 dX7_deletes_56 SX7_oldAt lX7_122 (rq0 rfl rfl) (Nat.le_of_ble_eq_true rfl) (C_oldAt ?_)
      dsimp only [pushR]
      refine wp_iconst dX7_deletes_59 ?_
      refine wp_iadd dX7_deletes_60 ?_
      refine wp_aload_n dX7_deletes_61 rfl ?_
      refine sa_get hS dX7_deletes_62 fX7_9 ?_
      refine wp_iload_n dX7_deletes_65 rfl ?_
      refine wp_iconst dX7_deletes_66 ?_
      refine wp_iadd dX7_deletes_67 ?_
      refine sa_ld (v := g (eA a k + 1)) hS dX7_deletes_68 (by decide) (by omega) (by rw [ud_ne (by omega)]) ?_
      refine sa_st hS dX7_deletes_69 (by decide) (by omega) ?_
      refine wp_aload_n dX7_deletes_70 rfl ?_
      refine sa_get hS dX7_deletes_71 fX7_9 ?_
      refine wp_bipush dX7_deletes_74 rfl ?_
      refine wp_dup2 dX7_deletes_76 rfl rfl ?_
      refine sa_ld (v := g 24) hS dX7_deletes_77 (by decide) (by omega) (by rw [ud_ne (by omega), ud_ne (by omega)]) ?_
      refine wp_iconst dX7_deletes_78 ?_
      refine wp_iadd dX7_deletes_79 ?_
      refine sa_st hS dX7_deletes_80 (by decide) (by omega) ?_
      exact sx_del hS (by first | exact hR | exact rg_ud (rg_ud (rg_ud hR (by have := hB 0; have := hB 5; unfold r32; omega)) (hR _)) (by have := hB 24; unfold r32; omega)) ha hk (by unfold spDel del1 at hQ; (repeat' split at hQ) <;> first | (exfalso; omega) | exact hQ)
end MB
