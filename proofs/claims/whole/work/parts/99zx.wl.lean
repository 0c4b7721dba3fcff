/-! the law's loop -/
section WL_
variable {X : XS} {h : AH} {Q : Option AV → AH → Prop} {B i : Int} {c s : Nat} {nm : String}
/-- the law's method, whatever its name -/
abbrev kLn (nm : String) : Kd := (⟨RL, nm, yL_law.desc⟩, kL_law.2)
abbrev LL (i : Int) : List (Option AV) := [some (vX 30), some (vR 0), some (vR 51), some (vI i)]
theorem r32_i (x : Int32) : r32 x.toInt := by
  have h1 := Int32.le_toInt x
  have h2 := Int32.toInt_lt x
  unfold r32
  omega
theorem r64_l (x : Int64) : r64 x.toInt := by
  have h1 := Int64.le_toInt x
  have h2 := Int64.toInt_lt x
  unfold r64
  omega
def shx (a : Int) : Int := (Int64.ofInt a <<< ((Int32.ofInt 32).toInt64 &&& 63)).toInt
def lax (a : Int) : Int := (Int64.ofInt a &&& Int64.ofInt 4294967295).toInt
def lox (a b : Int) : Int := (Int64.ofInt (shx a) ||| Int64.ofInt (lax b)).toInt
theorem lox_r (a b : Int) : r64 (lox a b) := r64_l _
set_option maxHeartbeats 1000000 in
theorem W_get (hX : X.1 ≤ 2560) (hv : ∀ j, r32 (X.2 j)) (hi : 0 ≤ i ∧ i + 5 ≤ X.1) (hI : INV B h) (hB : 1000 ≤ B ∧ B + 108000 ≤ 8000000) (kt : ∀ h', INV (B + 3000) h' → Wp X (kLn nm) 1580 (LL i) [] h' (c, s) Q) : Wp X (kLn nm) 220 (LL i) [] h (c + 1, s + 1060) Q := by
  obtain ⟨fs, h0⟩ := hI.ob
  refine wp_aload_n dL_law_220 rfl ?_
  refine wp_aload_n dL_law_221 rfl ?_
  refine wp_iload_n dL_law_222 rfl ?_
  refine wp_iconst dL_law_223 ?_
  refine wp_iadd dL_law_224 ?_
  refine wp_sld dL_law_225 hX (by omega) ?_
  refine wp_aload_n dL_law_226 rfl ?_
  refine wp_iload_n dL_law_227 rfl ?_
  refine wp_iconst dL_law_228 ?_
  refine wp_iadd dL_law_229 ?_
  refine wp_sld dL_law_230 hX (by omega) ?_
  refine wp_iv2 dL_law_231 VX6_get lL_13 h0 (b' := (c, s)) ⟨Nat.le_of_ble_eq_true rfl, Nat.le_of_ble_eq_true rfl, by show 1 + c ≤ c + 1; omega, by show 1060 + s ≤ s + 1060; omega⟩ (Nat.le_of_ble_eq_true rfl) (S_get hI hB (hv _) (hv _) fun y h'  ho nx => ?_)
  obtain ⟨fs2, ho⟩ := ho
  dsimp only [pushR]
  refine wp_aload_n dL_law_234 rfl ?_
  refine wp_aload_n dL_law_235 rfl ?_
  refine wp_iload_n dL_law_236 rfl ?_
  refine wp_iconst dL_law_237 ?_
  refine wp_iadd dL_law_238 ?_
  refine wp_sld dL_law_239 hX (by omega) ?_
  refine wp_aload_n dL_law_240 rfl ?_
  refine wp_iload_n dL_law_241 rfl ?_
  refine wp_iconst dL_law_242 ?_
  refine wp_iadd dL_law_243 ?_
  refine wp_sld dL_law_244 hX (by omega) ?_
  refine wp_iv2 dL_law_245 VX7_get lL_17 ho (rq0 rfl rfl) (Nat.le_of_ble_eq_true rfl) (nx _ fun h'' hI' => ?_)
  dsimp only [pushR]
  exact wp_same 1580 dL_law_248 rfl (kt _ hI')
set_option maxHeartbeats 1000000 in
theorem W_look (hX : X.1 ≤ 2560) (hv : ∀ j, r32 (X.2 j)) (hi : 0 ≤ i ∧ i + 5 ≤ X.1) (hI : INV B h) (hB : 1000 ≤ B ∧ B + 108000 ≤ 8000000) (kt : ∀ h', INV (B + 3000) h' → Wp X (kLn nm) 1580 (LL i) [] h' (c, s) Q) : Wp X (kLn nm) 253 (LL i) [] h (c + 1, s + 1060) Q := by
  obtain ⟨fs, h0⟩ := hI.ob
  refine wp_aload_n dL_law_253 rfl ?_
  refine wp_aload_n dL_law_254 rfl ?_
  refine wp_iload_n dL_law_255 rfl ?_
  refine wp_iconst dL_law_256 ?_
  refine wp_iadd dL_law_257 ?_
  refine wp_sld dL_law_258 hX (by omega) ?_
  refine wp_iv1 dL_law_259 VX6_look lL_18 h0 (b' := (c, s)) ⟨Nat.le_of_ble_eq_true rfl, Nat.le_of_ble_eq_true rfl, by show 1 + c ≤ c + 1; omega, by show 1060 + s ≤ s + 1060; omega⟩ (Nat.le_of_ble_eq_true rfl) (S_look hI hB (hv _) fun y h'  ho nx => ?_)
  obtain ⟨fs2, ho⟩ := ho
  dsimp only [pushR]
  refine wp_aload_n dL_law_262 rfl ?_
  refine wp_aload_n dL_law_263 rfl ?_
  refine wp_iload_n dL_law_264 rfl ?_
  refine wp_iconst dL_law_265 ?_
  refine wp_iadd dL_law_266 ?_
  refine wp_sld dL_law_267 hX (by omega) ?_
  refine wp_iv1 dL_law_268 VX7_look lL_22 ho (rq0 rfl rfl) (Nat.le_of_ble_eq_true rfl) (nx _ fun h'' hI' => ?_)
  dsimp only [pushR]
  exact wp_same 1580 dL_law_271 rfl (kt _ hI')
set_option maxHeartbeats 1000000 in
theorem W_fill (hX : X.1 ≤ 2560) (hv : ∀ j, r32 (X.2 j)) (hi : 0 ≤ i ∧ i + 5 ≤ X.1) (hI : INV B h) (hB : 1000 ≤ B ∧ B + 108000 ≤ 8000000) (kt : ∀ h', INV (B + 3000) h' → Wp X (kLn nm) 1580 (LL i) [] h' (c, s) Q) : Wp X (kLn nm) 276 (LL i) [] h (c + 1, s + 1060) Q := by
  obtain ⟨fs, h0⟩ := hI.ob
  refine wp_aload_n dL_law_276 rfl ?_
  refine wp_aload_n dL_law_277 rfl ?_
  refine wp_iload_n dL_law_278 rfl ?_
  refine wp_iconst dL_law_279 ?_
  refine wp_iadd dL_law_280 ?_
  refine wp_sld dL_law_281 hX (by omega) ?_
  refine wp_iv1 dL_law_282 VX6_fill lL_23 h0 (b' := (c, s)) ⟨Nat.le_of_ble_eq_true rfl, Nat.le_of_ble_eq_true rfl, by show 1 + c ≤ c + 1; omega, by show 1060 + s ≤ s + 1060; omega⟩ (Nat.le_of_ble_eq_true rfl) (S_fill hI hB (hv _) fun y h'  ho nx => ?_)
  obtain ⟨fs2, ho⟩ := ho
  dsimp only [pushR]
  refine wp_aload_n dL_law_285 rfl ?_
  refine wp_aload_n dL_law_286 rfl ?_
  refine wp_iload_n dL_law_287 rfl ?_
  refine wp_iconst dL_law_288 ?_
  refine wp_iadd dL_law_289 ?_
  refine wp_sld dL_law_290 hX (by omega) ?_
  refine wp_iv1 dL_law_291 VX7_fill lL_26 ho (rq0 rfl rfl) (Nat.le_of_ble_eq_true rfl) (nx _ fun h'' hI' => ?_)
  dsimp only [pushR]
  exact wp_same 1580 dL_law_294 rfl (kt _ hI')
set_option maxHeartbeats 1000000 in
theorem W_write (hX : X.1 ≤ 2560) (hv : ∀ j, r32 (X.2 j)) (hi : 0 ≤ i ∧ i + 5 ≤ X.1) (hI : INV B h) (hB : 1000 ≤ B ∧ B + 108000 ≤ 8000000) (kt : ∀ h', INV (B + 3000) h' → Wp X (kLn nm) 1580 (LL i) [] h' (c, s) Q) : Wp X (kLn nm) 299 (LL i) [] h (c + 1, s + 1060) Q := by
  obtain ⟨fs, h0⟩ := hI.ob
  refine wp_aload_n dL_law_299 rfl ?_
  refine wp_aload_n dL_law_300 rfl ?_
  refine wp_iload_n dL_law_301 rfl ?_
  refine wp_iconst dL_law_302 ?_
  refine wp_iadd dL_law_303 ?_
  refine wp_sld dL_law_304 hX (by omega) ?_
  refine wp_aload_n dL_law_305 rfl ?_
  refine wp_iload_n dL_law_306 rfl ?_
  refine wp_iconst dL_law_307 ?_
  refine wp_iadd dL_law_308 ?_
  refine wp_sld dL_law_309 hX (by omega) ?_
  refine wp_aload_n dL_law_310 rfl ?_
  refine wp_iload_n dL_law_311 rfl ?_
  refine wp_iconst dL_law_312 ?_
  refine wp_iadd dL_law_313 ?_
  refine wp_sld dL_law_314 hX (by omega) ?_
  refine wp_iv3 dL_law_315 VX6_write lL_27 h0 (b' := (c, s)) ⟨Nat.le_of_ble_eq_true rfl, Nat.le_of_ble_eq_true rfl, by show 1 + c ≤ c + 1; omega, by show 1060 + s ≤ s + 1060; omega⟩ (Nat.le_of_ble_eq_true rfl) (S_write hI hB (hv _) (hv _) (hv _) fun y h'  ho nx => ?_)
  obtain ⟨fs2, ho⟩ := ho
  dsimp only [pushR]
  refine wp_aload_n dL_law_318 rfl ?_
  refine wp_aload_n dL_law_319 rfl ?_
  refine wp_iload_n dL_law_320 rfl ?_
  refine wp_iconst dL_law_321 ?_
  refine wp_iadd dL_law_322 ?_
  refine wp_sld dL_law_323 hX (by omega) ?_
  refine wp_aload_n dL_law_324 rfl ?_
  refine wp_iload_n dL_law_325 rfl ?_
  refine wp_iconst dL_law_326 ?_
  refine wp_iadd dL_law_327 ?_
  refine wp_sld dL_law_328 hX (by omega) ?_
  refine wp_aload_n dL_law_329 rfl ?_
  refine wp_iload_n dL_law_330 rfl ?_
  refine wp_iconst dL_law_331 ?_
  refine wp_iadd dL_law_332 ?_
  refine wp_sld dL_law_333 hX (by omega) ?_
  refine wp_iv3 dL_law_334 VX7_write lL_31 ho (rq0 rfl rfl) (Nat.le_of_ble_eq_true rfl) (nx _ fun h'' hI' => ?_)
  dsimp only [pushR]
  exact wp_same 1580 dL_law_337 rfl (kt _ hI')
set_option maxHeartbeats 1000000 in
theorem W_apply (hX : X.1 ≤ 2560) (hv : ∀ j, r32 (X.2 j)) (hi : 0 ≤ i ∧ i + 5 ≤ X.1) (hI : INV B h) (hB : 1000 ≤ B ∧ B + 108000 ≤ 8000000) (kt : ∀ h', INV (B + 3000) h' → Wp X (kLn nm) 1580 (LL i) [] h' (c, s) Q) : Wp X (kLn nm) 342 (LL i) [] h (c + 1, s + 1060) Q := by
  obtain ⟨fs, h0⟩ := hI.ob
  refine wp_aload_n dL_law_342 rfl ?_
  refine wp_aload_n dL_law_343 rfl ?_
  refine wp_iload_n dL_law_344 rfl ?_
  refine wp_iconst dL_law_345 ?_
  refine wp_iadd dL_law_346 ?_
  refine wp_sld dL_law_347 hX (by omega) ?_
  refine wp_iv1 dL_law_348 VX6_apply lL_32 h0 (b' := (c, s)) ⟨Nat.le_of_ble_eq_true rfl, Nat.le_of_ble_eq_true rfl, by show 1 + c ≤ c + 1; omega, by show 1060 + s ≤ s + 1060; omega⟩ (Nat.le_of_ble_eq_true rfl) (S_apply hI hB (hv _) fun y h'  ho nx => ?_)
  obtain ⟨fs2, ho⟩ := ho
  dsimp only [pushR]
  refine wp_aload_n dL_law_351 rfl ?_
  refine wp_aload_n dL_law_352 rfl ?_
  refine wp_iload_n dL_law_353 rfl ?_
  refine wp_iconst dL_law_354 ?_
  refine wp_iadd dL_law_355 ?_
  refine wp_sld dL_law_356 hX (by omega) ?_
  refine wp_iv1 dL_law_357 VX7_apply lL_35 ho (rq0 rfl rfl) (Nat.le_of_ble_eq_true rfl) (nx _ fun h'' hI' => ?_)
  dsimp only [pushR]
  exact wp_same 1580 dL_law_360 rfl (kt _ hI')
set_option maxHeartbeats 1000000 in
theorem W_tick (hX : X.1 ≤ 2560) (hv : ∀ j, r32 (X.2 j)) (hi : 0 ≤ i ∧ i + 5 ≤ X.1) (hI : INV B h) (hB : 1000 ≤ B ∧ B + 108000 ≤ 8000000) (kt : ∀ h', INV (B + 3000) h' → Wp X (kLn nm) 1580 (LL i) [] h' (c, s) Q) : Wp X (kLn nm) 365 (LL i) [] h (c + 1, s + 1060) Q := by
  obtain ⟨fs, h0⟩ := hI.ob
  refine wp_aload_n dL_law_365 rfl ?_
  refine wp_aload_n dL_law_366 rfl ?_
  refine wp_iload_n dL_law_367 rfl ?_
  refine wp_iconst dL_law_368 ?_
  refine wp_iadd dL_law_369 ?_
  refine wp_sld dL_law_370 hX (by omega) ?_
  refine wp_iv1 dL_law_371 VX6_tick lL_36 h0 (b' := (c, s)) ⟨Nat.le_of_ble_eq_true rfl, Nat.le_of_ble_eq_true rfl, by show 1 + c ≤ c + 1; omega, by show 1060 + s ≤ s + 1060; omega⟩ (Nat.le_of_ble_eq_true rfl) (S_tick hI hB (hv _) fun y h'  ho nx => ?_)
  obtain ⟨fs2, ho⟩ := ho
  dsimp only [pushR]
  refine wp_aload_n dL_law_374 rfl ?_
  refine wp_aload_n dL_law_375 rfl ?_
  refine wp_iload_n dL_law_376 rfl ?_
  refine wp_iconst dL_law_377 ?_
  refine wp_iadd dL_law_378 ?_
  refine wp_sld dL_law_379 hX (by omega) ?_
  refine wp_iv1 dL_law_380 VX7_tick lL_39 ho (rq0 rfl rfl) (Nat.le_of_ble_eq_true rfl) (nx _ fun h'' hI' => ?_)
  dsimp only [pushR]
  exact wp_same 1580 dL_law_383 rfl (kt _ hI')
set_option maxHeartbeats 1000000 in
theorem W_cold (hX : X.1 ≤ 2560) (hv : ∀ j, r32 (X.2 j)) (hi : 0 ≤ i ∧ i + 5 ≤ X.1) (hI : INV B h) (hB : 1000 ≤ B ∧ B + 108000 ≤ 8000000) (kt : ∀ h', INV (B + 3000) h' → Wp X (kLn nm) 1580 (LL i) [] h' (c, s) Q) : Wp X (kLn nm) 388 (LL i) [] h (c + 1, s + 1060) Q := by
  obtain ⟨fs, h0⟩ := hI.ob
  refine wp_aload_n dL_law_388 rfl ?_
  refine wp_aload_n dL_law_389 rfl ?_
  refine wp_iload_n dL_law_390 rfl ?_
  refine wp_iconst dL_law_391 ?_
  refine wp_iadd dL_law_392 ?_
  refine wp_sld dL_law_393 hX (by omega) ?_
  refine wp_aload_n dL_law_394 rfl ?_
  refine wp_iload_n dL_law_395 rfl ?_
  refine wp_iconst dL_law_396 ?_
  refine wp_iadd dL_law_397 ?_
  refine wp_sld dL_law_398 hX (by omega) ?_
  refine wp_iv2 dL_law_399 VX6_cold lL_40 h0 (b' := (c, s)) ⟨Nat.le_of_ble_eq_true rfl, Nat.le_of_ble_eq_true rfl, by show 1 + c ≤ c + 1; omega, by show 1060 + s ≤ s + 1060; omega⟩ (Nat.le_of_ble_eq_true rfl) (S_cold hI hB (hv _) (hv _) fun y h'  ho nx => ?_)
  obtain ⟨fs2, ho⟩ := ho
  dsimp only [pushR]
  refine wp_aload_n dL_law_402 rfl ?_
  refine wp_aload_n dL_law_403 rfl ?_
  refine wp_iload_n dL_law_404 rfl ?_
  refine wp_iconst dL_law_405 ?_
  refine wp_iadd dL_law_406 ?_
  refine wp_sld dL_law_407 hX (by omega) ?_
  refine wp_aload_n dL_law_408 rfl ?_
  refine wp_iload_n dL_law_409 rfl ?_
  refine wp_iconst dL_law_410 ?_
  refine wp_iadd dL_law_411 ?_
  refine wp_sld dL_law_412 hX (by omega) ?_
  refine wp_iv2 dL_law_413 VX7_cold lL_43 ho (rq0 rfl rfl) (Nat.le_of_ble_eq_true rfl) (nx _ fun h'' hI' => ?_)
  dsimp only [pushR]
  exact wp_same 1580 dL_law_416 rfl (kt _ hI')
set_option maxHeartbeats 1000000 in
theorem W_go (hX : X.1 ≤ 2560) (hv : ∀ j, r32 (X.2 j)) (hi : 0 ≤ i ∧ i + 5 ≤ X.1) (hI : INV B h) (hB : 1000 ≤ B ∧ B + 108000 ≤ 8000000) (kt : ∀ h', INV (B + 3000) h' → Wp X (kLn nm) 1580 (LL i) [] h' (c, s) Q) : Wp X (kLn nm) 421 (LL i) [] h (c + 1, s + 1060) Q := by
  obtain ⟨fs, h0⟩ := hI.ob
  refine wp_aload_n dL_law_421 rfl ?_
  refine wp_aload_n dL_law_422 rfl ?_
  refine wp_iload_n dL_law_423 rfl ?_
  refine wp_iconst dL_law_424 ?_
  refine wp_iadd dL_law_425 ?_
  refine wp_sld dL_law_426 hX (by omega) ?_
  refine wp_aload_n dL_law_427 rfl ?_
  refine wp_iload_n dL_law_428 rfl ?_
  refine wp_iconst dL_law_429 ?_
  refine wp_iadd dL_law_430 ?_
  refine wp_sld dL_law_431 hX (by omega) ?_
  refine wp_iv2 dL_law_432 VX6_go lL_44 h0 (b' := (c, s)) ⟨Nat.le_of_ble_eq_true rfl, Nat.le_of_ble_eq_true rfl, by show 1 + c ≤ c + 1; omega, by show 1060 + s ≤ s + 1060; omega⟩ (Nat.le_of_ble_eq_true rfl) (S_go hI hB (hv _) (hv _) fun y h'  ho nx => ?_)
  obtain ⟨fs2, ho⟩ := ho
  dsimp only [pushR]
  refine wp_aload_n dL_law_435 rfl ?_
  refine wp_aload_n dL_law_436 rfl ?_
  refine wp_iload_n dL_law_437 rfl ?_
  refine wp_iconst dL_law_438 ?_
  refine wp_iadd dL_law_439 ?_
  refine wp_sld dL_law_440 hX (by omega) ?_
  refine wp_aload_n dL_law_441 rfl ?_
  refine wp_iload_n dL_law_442 rfl ?_
  refine wp_iconst dL_law_443 ?_
  refine wp_iadd dL_law_444 ?_
  refine wp_sld dL_law_445 hX (by omega) ?_
  refine wp_iv2 dL_law_446 VX7_go lL_47 ho (rq0 rfl rfl) (Nat.le_of_ble_eq_true rfl) (nx _ fun h'' hI' => ?_)
  dsimp only [pushR]
  exact wp_same 1580 dL_law_449 rfl (kt _ hI')
set_option maxHeartbeats 1000000 in
theorem W_set (hX : X.1 ≤ 2560) (hv : ∀ j, r32 (X.2 j)) (hi : 0 ≤ i ∧ i + 5 ≤ X.1) (hI : INV B h) (hB : 1000 ≤ B ∧ B + 108000 ≤ 8000000) (kt : ∀ h', INV (B + 3000) h' → Wp X (kLn nm) 1580 (LL i) [] h' (c, s) Q) : Wp X (kLn nm) 454 (LL i) [] h (c + 1, s + 1060) Q := by
  obtain ⟨fs, h0⟩ := hI.ob
  refine wp_aload_n dL_law_454 rfl ?_
  refine wp_aload_n dL_law_455 rfl ?_
  refine wp_iload_n dL_law_456 rfl ?_
  refine wp_iconst dL_law_457 ?_
  refine wp_iadd dL_law_458 ?_
  refine wp_sld dL_law_459 hX (by omega) ?_
  refine wp_aload_n dL_law_460 rfl ?_
  refine wp_iload_n dL_law_461 rfl ?_
  refine wp_iconst dL_law_462 ?_
  refine wp_iadd dL_law_463 ?_
  refine wp_sld dL_law_464 hX (by omega) ?_
  refine wp_iv2 dL_law_465 VX6_set lL_48 h0 (b' := (c, s)) ⟨Nat.le_of_ble_eq_true rfl, Nat.le_of_ble_eq_true rfl, by show 1 + c ≤ c + 1; omega, by show 1060 + s ≤ s + 1060; omega⟩ (Nat.le_of_ble_eq_true rfl) (S_set hI hB (hv _) (hv _) fun y h'  ho nx => ?_)
  obtain ⟨fs2, ho⟩ := ho
  dsimp only [pushR]
  refine wp_aload_n dL_law_468 rfl ?_
  refine wp_aload_n dL_law_469 rfl ?_
  refine wp_iload_n dL_law_470 rfl ?_
  refine wp_iconst dL_law_471 ?_
  refine wp_iadd dL_law_472 ?_
  refine wp_sld dL_law_473 hX (by omega) ?_
  refine wp_aload_n dL_law_474 rfl ?_
  refine wp_iload_n dL_law_475 rfl ?_
  refine wp_iconst dL_law_476 ?_
  refine wp_iadd dL_law_477 ?_
  refine wp_sld dL_law_478 hX (by omega) ?_
  refine wp_iv2 dL_law_479 VX7_set lL_51 ho (rq0 rfl rfl) (Nat.le_of_ble_eq_true rfl) (nx _ fun h'' hI' => ?_)
  dsimp only [pushR]
  exact wp_same 1580 dL_law_482 rfl (kt _ hI')
set_option maxHeartbeats 1000000 in
theorem W_next (hX : X.1 ≤ 2560) (hv : ∀ j, r32 (X.2 j)) (hi : 0 ≤ i ∧ i + 5 ≤ X.1) (hI : INV B h) (hB : 1000 ≤ B ∧ B + 108000 ≤ 8000000) (kt : ∀ h', INV (B + 3000) h' → Wp X (kLn nm) 1580 (LL i) [] h' (c, s) Q) : Wp X (kLn nm) 487 (LL i) [] h (c + 1, s + 1060) Q := by
  obtain ⟨fs, h0⟩ := hI.ob
  refine wp_aload_n dL_law_487 rfl ?_
  refine wp_iv0 dL_law_488 VX6_next lL_52 h0 (b' := (c, s)) ⟨Nat.le_of_ble_eq_true rfl, Nat.le_of_ble_eq_true rfl, by show 1 + c ≤ c + 1; omega, by show 1060 + s ≤ s + 1060; omega⟩ (Nat.le_of_ble_eq_true rfl) (S_next hI hB  fun y h'  ho nx => ?_)
  obtain ⟨fs2, ho⟩ := ho
  dsimp only [pushR]
  refine wp_aload_n dL_law_491 rfl ?_
  refine wp_iv0 dL_law_492 VX7_next lL_56 ho (rq0 rfl rfl) (Nat.le_of_ble_eq_true rfl) (nx _ fun h'' hI' => ?_)
  dsimp only [pushR]
  exact wp_same 1580 dL_law_495 rfl (kt _ hI')
set_option maxHeartbeats 1000000 in
theorem W_undo (hX : X.1 ≤ 2560) (hv : ∀ j, r32 (X.2 j)) (hi : 0 ≤ i ∧ i + 5 ≤ X.1) (hI : INV B h) (hB : 1000 ≤ B ∧ B + 108000 ≤ 8000000) (kt : ∀ h', INV (B + 3000) h' → Wp X (kLn nm) 1580 (LL i) [] h' (c, s) Q) : Wp X (kLn nm) 500 (LL i) [] h (c + 1, s + 1060) Q := by
  obtain ⟨fs, h0⟩ := hI.ob
  refine wp_aload_n dL_law_500 rfl ?_
  refine wp_iv0 dL_law_501 VX6_undo lL_57 h0 (b' := (c, s)) ⟨Nat.le_of_ble_eq_true rfl, Nat.le_of_ble_eq_true rfl, by show 0 + c ≤ c + 1; omega, by show 0 + s ≤ s + 1060; omega⟩ (Nat.le_of_ble_eq_true rfl) (S_undo hI hB  fun y h'  ho nx => ?_)
  obtain ⟨fs2, ho⟩ := ho
  dsimp only [pushR]
  refine wp_aload_n dL_law_504 rfl ?_
  refine wp_iv0 dL_law_505 VX7_undo lL_60 ho (rq0 rfl rfl) (Nat.le_of_ble_eq_true rfl) (nx _ fun h'' hI' => ?_)
  dsimp only [pushR]
  exact wp_same 1580 dL_law_508 rfl (kt _ hI')
set_option maxHeartbeats 1000000 in
theorem W_redo (hX : X.1 ≤ 2560) (hv : ∀ j, r32 (X.2 j)) (hi : 0 ≤ i ∧ i + 5 ≤ X.1) (hI : INV B h) (hB : 1000 ≤ B ∧ B + 108000 ≤ 8000000) (kt : ∀ h', INV (B + 3000) h' → Wp X (kLn nm) 1580 (LL i) [] h' (c, s) Q) : Wp X (kLn nm) 513 (LL i) [] h (c + 1, s + 1060) Q := by
  obtain ⟨fs, h0⟩ := hI.ob
  refine wp_aload_n dL_law_513 rfl ?_
  refine wp_iv0 dL_law_514 VX6_redo lL_61 h0 (b' := (c, s)) ⟨Nat.le_of_ble_eq_true rfl, Nat.le_of_ble_eq_true rfl, by show 0 + c ≤ c + 1; omega, by show 0 + s ≤ s + 1060; omega⟩ (Nat.le_of_ble_eq_true rfl) (S_redo hI hB  fun y h'  ho nx => ?_)
  obtain ⟨fs2, ho⟩ := ho
  dsimp only [pushR]
  refine wp_aload_n dL_law_517 rfl ?_
  refine wp_iv0 dL_law_518 VX7_redo lL_64 ho (rq0 rfl rfl) (Nat.le_of_ble_eq_true rfl) (nx _ fun h'' hI' => ?_)
  dsimp only [pushR]
  exact wp_same 1580 dL_law_521 rfl (kt _ hI')
set_option maxHeartbeats 1000000 in
theorem W_setting (hX : X.1 ≤ 2560) (hv : ∀ j, r32 (X.2 j)) (hi : 0 ≤ i ∧ i + 5 ≤ X.1) (hI : INV B h) (hB : 1000 ≤ B ∧ B + 108000 ≤ 8000000) (kt : ∀ h', INV (B + 3000) h' → Wp X (kLn nm) 1580 (LL i) [] h' (c, s) Q) : Wp X (kLn nm) 526 (LL i) [] h (c + 1, s + 1060) Q := by
  obtain ⟨fs, h0⟩ := hI.ob
  refine wp_aload_n dL_law_526 rfl ?_
  refine wp_aload_n dL_law_527 rfl ?_
  refine wp_iload_n dL_law_528 rfl ?_
  refine wp_iconst dL_law_529 ?_
  refine wp_iadd dL_law_530 ?_
  refine wp_sld dL_law_531 hX (by omega) ?_
  refine wp_iv1 dL_law_532 VX6_setting lL_65 h0 (b' := (c, s)) ⟨Nat.le_of_ble_eq_true rfl, Nat.le_of_ble_eq_true rfl, by show 0 + c ≤ c + 1; omega, by show 0 + s ≤ s + 1060; omega⟩ (Nat.le_of_ble_eq_true rfl) (S_setting hI hB (hv _) fun y h'  ho nx => ?_)
  obtain ⟨fs2, ho⟩ := ho
  dsimp only [pushR]
  refine wp_aload_n dL_law_535 rfl ?_
  refine wp_aload_n dL_law_536 rfl ?_
  refine wp_iload_n dL_law_537 rfl ?_
  refine wp_iconst dL_law_538 ?_
  refine wp_iadd dL_law_539 ?_
  refine wp_sld dL_law_540 hX (by omega) ?_
  refine wp_iv1 dL_law_541 VX7_setting lL_68 ho (rq0 rfl rfl) (Nat.le_of_ble_eq_true rfl) (nx _ fun h'' hI' => ?_)
  dsimp only [pushR]
  exact wp_same 1580 dL_law_544 rfl (kt _ hI')
set_option maxHeartbeats 1000000 in
theorem W_entry (hX : X.1 ≤ 2560) (hv : ∀ j, r32 (X.2 j)) (hi : 0 ≤ i ∧ i + 5 ≤ X.1) (hI : INV B h) (hB : 1000 ≤ B ∧ B + 108000 ≤ 8000000) (kt : ∀ h', INV (B + 3000) h' → Wp X (kLn nm) 1580 (LL i) [] h' (c, s) Q) : Wp X (kLn nm) 549 (LL i) [] h (c + 1, s + 1060) Q := by
  obtain ⟨fs, h0⟩ := hI.ob
  refine wp_aload_n dL_law_549 rfl ?_
  refine wp_aload_n dL_law_550 rfl ?_
  refine wp_iload_n dL_law_551 rfl ?_
  refine wp_iconst dL_law_552 ?_
  refine wp_iadd dL_law_553 ?_
  refine wp_sld dL_law_554 hX (by omega) ?_
  refine wp_aload_n dL_law_555 rfl ?_
  refine wp_iload_n dL_law_556 rfl ?_
  refine wp_iconst dL_law_557 ?_
  refine wp_iadd dL_law_558 ?_
  refine wp_sld dL_law_559 hX (by omega) ?_
  refine wp_aload_n dL_law_560 rfl ?_
  refine wp_iload_n dL_law_561 rfl ?_
  refine wp_iconst dL_law_562 ?_
  refine wp_iadd dL_law_563 ?_
  refine wp_sld dL_law_564 hX (by omega) ?_
  refine wp_iv3 dL_law_565 VX6_entry lL_69 h0 (b' := (c, s)) ⟨Nat.le_of_ble_eq_true rfl, Nat.le_of_ble_eq_true rfl, by show 0 + c ≤ c + 1; omega, by show 0 + s ≤ s + 1060; omega⟩ (Nat.le_of_ble_eq_true rfl) (S_entry hI hB (hv _) (hv _) (hv _) fun y h'  ho nx => ?_)
  obtain ⟨fs2, ho⟩ := ho
  dsimp only [pushR]
  refine wp_aload_n dL_law_568 rfl ?_
  refine wp_aload_n dL_law_569 rfl ?_
  refine wp_iload_n dL_law_570 rfl ?_
  refine wp_iconst dL_law_571 ?_
  refine wp_iadd dL_law_572 ?_
  refine wp_sld dL_law_573 hX (by omega) ?_
  refine wp_aload_n dL_law_574 rfl ?_
  refine wp_iload_n dL_law_575 rfl ?_
  refine wp_iconst dL_law_576 ?_
  refine wp_iadd dL_law_577 ?_
  refine wp_sld dL_law_578 hX (by omega) ?_
  refine wp_aload_n dL_law_579 rfl ?_
  refine wp_iload_n dL_law_580 rfl ?_
  refine wp_iconst dL_law_581 ?_
  refine wp_iadd dL_law_582 ?_
  refine wp_sld dL_law_583 hX (by omega) ?_
  refine wp_iv3 dL_law_584 VX7_entry lL_72 ho (rq0 rfl rfl) (Nat.le_of_ble_eq_true rfl) (nx _ fun h'' hI' => ?_)
  dsimp only [pushR]
  exact wp_same 1580 dL_law_587 rfl (kt _ hI')
set_option maxHeartbeats 1000000 in
theorem W_beside (hX : X.1 ≤ 2560) (hv : ∀ j, r32 (X.2 j)) (hi : 0 ≤ i ∧ i + 5 ≤ X.1) (hI : INV B h) (hB : 1000 ≤ B ∧ B + 108000 ≤ 8000000) (kt : ∀ h', INV (B + 3000) h' → Wp X (kLn nm) 1580 (LL i) [] h' (c, s) Q) : Wp X (kLn nm) 592 (LL i) [] h (c + 1, s + 1060) Q := by
  obtain ⟨fs, h0⟩ := hI.ob
  refine wp_aload_n dL_law_592 rfl ?_
  refine wp_aload_n dL_law_593 rfl ?_
  refine wp_iload_n dL_law_594 rfl ?_
  refine wp_iconst dL_law_595 ?_
  refine wp_iadd dL_law_596 ?_
  refine wp_sld dL_law_597 hX (by omega) ?_
  refine wp_aload_n dL_law_598 rfl ?_
  refine wp_iload_n dL_law_599 rfl ?_
  refine wp_iconst dL_law_600 ?_
  refine wp_iadd dL_law_601 ?_
  refine wp_sld dL_law_602 hX (by omega) ?_
  refine wp_aload_n dL_law_603 rfl ?_
  refine wp_iload_n dL_law_604 rfl ?_
  refine wp_iconst dL_law_605 ?_
  refine wp_iadd dL_law_606 ?_
  refine wp_sld dL_law_607 hX (by omega) ?_
  refine wp_iv3 dL_law_608 VX6_beside lL_73 h0 (b' := (c, s)) ⟨Nat.le_of_ble_eq_true rfl, Nat.le_of_ble_eq_true rfl, by show 0 + c ≤ c + 1; omega, by show 0 + s ≤ s + 1060; omega⟩ (Nat.le_of_ble_eq_true rfl) (S_beside hI hB (hv _) (hv _) (hv _) fun y h'  ho nx => ?_)
  obtain ⟨fs2, ho⟩ := ho
  dsimp only [pushR]
  refine wp_aload_n dL_law_611 rfl ?_
  refine wp_aload_n dL_law_612 rfl ?_
  refine wp_iload_n dL_law_613 rfl ?_
  refine wp_iconst dL_law_614 ?_
  refine wp_iadd dL_law_615 ?_
  refine wp_sld dL_law_616 hX (by omega) ?_
  refine wp_aload_n dL_law_617 rfl ?_
  refine wp_iload_n dL_law_618 rfl ?_
  refine wp_iconst dL_law_619 ?_
  refine wp_iadd dL_law_620 ?_
  refine wp_sld dL_law_621 hX (by omega) ?_
  refine wp_aload_n dL_law_622 rfl ?_
  refine wp_iload_n dL_law_623 rfl ?_
  refine wp_iconst dL_law_624 ?_
  refine wp_iadd dL_law_625 ?_
  refine wp_sld dL_law_626 hX (by omega) ?_
  refine wp_iv3 dL_law_627 VX7_beside lL_76 ho (rq0 rfl rfl) (Nat.le_of_ble_eq_true rfl) (nx _ fun h'' hI' => ?_)
  dsimp only [pushR]
  exact wp_same 1580 dL_law_630 rfl (kt _ hI')
set_option maxHeartbeats 1000000 in
theorem W_client (hX : X.1 ≤ 2560) (hv : ∀ j, r32 (X.2 j)) (hi : 0 ≤ i ∧ i + 5 ≤ X.1) (hI : INV B h) (hB : 1000 ≤ B ∧ B + 108000 ≤ 8000000) (kt : ∀ h', INV (B + 3000) h' → Wp X (kLn nm) 1580 (LL i) [] h' (c, s) Q) : Wp X (kLn nm) 635 (LL i) [] h (c + 1, s + 1060) Q := by
  obtain ⟨fs, h0⟩ := hI.ob
  refine wp_aload_n dL_law_635 rfl ?_
  refine wp_aload_n dL_law_636 rfl ?_
  refine wp_iload_n dL_law_637 rfl ?_
  refine wp_iconst dL_law_638 ?_
  refine wp_iadd dL_law_639 ?_
  refine wp_sld dL_law_640 hX (by omega) ?_
  refine wp_aload_n dL_law_641 rfl ?_
  refine wp_iload_n dL_law_642 rfl ?_
  refine wp_iconst dL_law_643 ?_
  refine wp_iadd dL_law_644 ?_
  refine wp_sld dL_law_645 hX (by omega) ?_
  refine wp_iv2 dL_law_646 VX6_client lL_77 h0 (b' := (c, s)) ⟨Nat.le_of_ble_eq_true rfl, Nat.le_of_ble_eq_true rfl, by show 0 + c ≤ c + 1; omega, by show 0 + s ≤ s + 1060; omega⟩ (Nat.le_of_ble_eq_true rfl) (S_client hI hB (hv _) (hv _) fun y h'  ho nx => ?_)
  obtain ⟨fs2, ho⟩ := ho
  dsimp only [pushR]
  refine wp_aload_n dL_law_649 rfl ?_
  refine wp_aload_n dL_law_650 rfl ?_
  refine wp_iload_n dL_law_651 rfl ?_
  refine wp_iconst dL_law_652 ?_
  refine wp_iadd dL_law_653 ?_
  refine wp_sld dL_law_654 hX (by omega) ?_
  refine wp_aload_n dL_law_655 rfl ?_
  refine wp_iload_n dL_law_656 rfl ?_
  refine wp_iconst dL_law_657 ?_
  refine wp_iadd dL_law_658 ?_
  refine wp_sld dL_law_659 hX (by omega) ?_
  refine wp_iv2 dL_law_660 VX7_client lL_80 ho (rq0 rfl rfl) (Nat.le_of_ble_eq_true rfl) (nx _ fun h'' hI' => ?_)
  dsimp only [pushR]
  exact wp_same 1580 dL_law_663 rfl (kt _ hI')
set_option maxHeartbeats 1000000 in
theorem W_store (hX : X.1 ≤ 2560) (hv : ∀ j, r32 (X.2 j)) (hi : 0 ≤ i ∧ i + 5 ≤ X.1) (hI : INV B h) (hB : 1000 ≤ B ∧ B + 108000 ≤ 8000000) (kt : ∀ h', INV (B + 3000) h' → Wp X (kLn nm) 1580 (LL i) [] h' (c, s) Q) : Wp X (kLn nm) 668 (LL i) [] h (c + 1, s + 1060) Q := by
  obtain ⟨fs, h0⟩ := hI.ob
  refine wp_aload_n dL_law_668 rfl ?_
  refine wp_aload_n dL_law_669 rfl ?_
  refine wp_iload_n dL_law_670 rfl ?_
  refine wp_iconst dL_law_671 ?_
  refine wp_iadd dL_law_672 ?_
  refine wp_sld dL_law_673 hX (by omega) ?_
  refine wp_aload_n dL_law_674 rfl ?_
  refine wp_iload_n dL_law_675 rfl ?_
  refine wp_iconst dL_law_676 ?_
  refine wp_iadd dL_law_677 ?_
  refine wp_sld dL_law_678 hX (by omega) ?_
  refine wp_aload_n dL_law_679 rfl ?_
  refine wp_iload_n dL_law_680 rfl ?_
  refine wp_iconst dL_law_681 ?_
  refine wp_iadd dL_law_682 ?_
  refine wp_sld dL_law_683 hX (by omega) ?_
  refine wp_iv3 dL_law_684 VX6_store lL_81 h0 (b' := (c, s)) ⟨Nat.le_of_ble_eq_true rfl, Nat.le_of_ble_eq_true rfl, by show 0 + c ≤ c + 1; omega, by show 0 + s ≤ s + 1060; omega⟩ (Nat.le_of_ble_eq_true rfl) (S_store hI hB (hv _) (hv _) (hv _) fun y h'  ho nx => ?_)
  obtain ⟨fs2, ho⟩ := ho
  dsimp only [pushR]
  refine wp_aload_n dL_law_687 rfl ?_
  refine wp_aload_n dL_law_688 rfl ?_
  refine wp_iload_n dL_law_689 rfl ?_
  refine wp_iconst dL_law_690 ?_
  refine wp_iadd dL_law_691 ?_
  refine wp_sld dL_law_692 hX (by omega) ?_
  refine wp_aload_n dL_law_693 rfl ?_
  refine wp_iload_n dL_law_694 rfl ?_
  refine wp_iconst dL_law_695 ?_
  refine wp_iadd dL_law_696 ?_
  refine wp_sld dL_law_697 hX (by omega) ?_
  refine wp_aload_n dL_law_698 rfl ?_
  refine wp_iload_n dL_law_699 rfl ?_
  refine wp_iconst dL_law_700 ?_
  refine wp_iadd dL_law_701 ?_
  refine wp_sld dL_law_702 hX (by omega) ?_
  refine wp_iv3 dL_law_703 VX7_store lL_84 ho (rq0 rfl rfl) (Nat.le_of_ble_eq_true rfl) (nx _ fun h'' hI' => ?_)
  dsimp only [pushR]
  exact wp_same 1580 dL_law_706 rfl (kt _ hI')
set_option maxHeartbeats 1000000 in
theorem W_region (hX : X.1 ≤ 2560) (hv : ∀ j, r32 (X.2 j)) (hi : 0 ≤ i ∧ i + 5 ≤ X.1) (hI : INV B h) (hB : 1000 ≤ B ∧ B + 108000 ≤ 8000000) (kt : ∀ h', INV (B + 3000) h' → Wp X (kLn nm) 1580 (LL i) [] h' (c, s) Q) : Wp X (kLn nm) 711 (LL i) [] h (c + 1, s + 1060) Q := by
  obtain ⟨fs, h0⟩ := hI.ob
  refine wp_aload_n dL_law_711 rfl ?_
  refine wp_aload_n dL_law_712 rfl ?_
  refine wp_iload_n dL_law_713 rfl ?_
  refine wp_iconst dL_law_714 ?_
  refine wp_iadd dL_law_715 ?_
  refine wp_sld dL_law_716 hX (by omega) ?_
  refine wp_aload_n dL_law_717 rfl ?_
  refine wp_iload_n dL_law_718 rfl ?_
  refine wp_iconst dL_law_719 ?_
  refine wp_iadd dL_law_720 ?_
  refine wp_sld dL_law_721 hX (by omega) ?_
  refine wp_iv2 dL_law_722 VX6_region lL_85 h0 (b' := (c, s)) ⟨Nat.le_of_ble_eq_true rfl, Nat.le_of_ble_eq_true rfl, by show 0 + c ≤ c + 1; omega, by show 0 + s ≤ s + 1060; omega⟩ (Nat.le_of_ble_eq_true rfl) (S_region hI hB (hv _) (hv _) fun y h'  ho nx => ?_)
  obtain ⟨fs2, ho⟩ := ho
  dsimp only [pushR]
  refine wp_aload_n dL_law_725 rfl ?_
  refine wp_aload_n dL_law_726 rfl ?_
  refine wp_iload_n dL_law_727 rfl ?_
  refine wp_iconst dL_law_728 ?_
  refine wp_iadd dL_law_729 ?_
  refine wp_sld dL_law_730 hX (by omega) ?_
  refine wp_aload_n dL_law_731 rfl ?_
  refine wp_iload_n dL_law_732 rfl ?_
  refine wp_iconst dL_law_733 ?_
  refine wp_iadd dL_law_734 ?_
  refine wp_sld dL_law_735 hX (by omega) ?_
  refine wp_iv2 dL_law_736 VX7_region lL_88 ho (rq0 rfl rfl) (Nat.le_of_ble_eq_true rfl) (nx _ fun h'' hI' => ?_)
  dsimp only [pushR]
  exact wp_same 1580 dL_law_739 rfl (kt _ hI')
set_option maxHeartbeats 1000000 in
theorem W_within (hX : X.1 ≤ 2560) (hv : ∀ j, r32 (X.2 j)) (hi : 0 ≤ i ∧ i + 5 ≤ X.1) (hI : INV B h) (hB : 1000 ≤ B ∧ B + 108000 ≤ 8000000) (kt : ∀ h', INV (B + 3000) h' → Wp X (kLn nm) 1580 (LL i) [] h' (c, s) Q) : Wp X (kLn nm) 744 (LL i) [] h (c + 1, s + 1060) Q := by
  obtain ⟨fs, h0⟩ := hI.ob
  refine wp_aload_n dL_law_744 rfl ?_
  refine wp_aload_n dL_law_745 rfl ?_
  refine wp_iload_n dL_law_746 rfl ?_
  refine wp_iconst dL_law_747 ?_
  refine wp_iadd dL_law_748 ?_
  refine wp_sld dL_law_749 hX (by omega) ?_
  refine wp_aload_n dL_law_750 rfl ?_
  refine wp_iload_n dL_law_751 rfl ?_
  refine wp_iconst dL_law_752 ?_
  refine wp_iadd dL_law_753 ?_
  refine wp_sld dL_law_754 hX (by omega) ?_
  refine wp_aload_n dL_law_755 rfl ?_
  refine wp_iload_n dL_law_756 rfl ?_
  refine wp_iconst dL_law_757 ?_
  refine wp_iadd dL_law_758 ?_
  refine wp_sld dL_law_759 hX (by omega) ?_
  refine wp_iv3 dL_law_760 VX6_within lL_89 h0 (b' := (c, s)) ⟨Nat.le_of_ble_eq_true rfl, Nat.le_of_ble_eq_true rfl, by show 0 + c ≤ c + 1; omega, by show 0 + s ≤ s + 1060; omega⟩ (Nat.le_of_ble_eq_true rfl) (S_within hI hB (hv _) (hv _) (hv _) fun y h'  ho nx => ?_)
  obtain ⟨fs2, ho⟩ := ho
  dsimp only [pushR]
  refine wp_aload_n dL_law_763 rfl ?_
  refine wp_aload_n dL_law_764 rfl ?_
  refine wp_iload_n dL_law_765 rfl ?_
  refine wp_iconst dL_law_766 ?_
  refine wp_iadd dL_law_767 ?_
  refine wp_sld dL_law_768 hX (by omega) ?_
  refine wp_aload_n dL_law_769 rfl ?_
  refine wp_iload_n dL_law_770 rfl ?_
  refine wp_iconst dL_law_771 ?_
  refine wp_iadd dL_law_772 ?_
  refine wp_sld dL_law_773 hX (by omega) ?_
  refine wp_aload_n dL_law_774 rfl ?_
  refine wp_iload_n dL_law_775 rfl ?_
  refine wp_iconst dL_law_776 ?_
  refine wp_iadd dL_law_777 ?_
  refine wp_sld dL_law_778 hX (by omega) ?_
  refine wp_iv3 dL_law_779 VX7_within lL_92 ho (rq0 rfl rfl) (Nat.le_of_ble_eq_true rfl) (nx _ fun h'' hI' => ?_)
  dsimp only [pushR]
  exact wp_same 1580 dL_law_782 rfl (kt _ hI')
set_option maxHeartbeats 1000000 in
theorem W_least (hX : X.1 ≤ 2560) (hv : ∀ j, r32 (X.2 j)) (hi : 0 ≤ i ∧ i + 5 ≤ X.1) (hI : INV B h) (hB : 1000 ≤ B ∧ B + 108000 ≤ 8000000) (kt : ∀ h', INV (B + 3000) h' → Wp X (kLn nm) 1580 (LL i) [] h' (c, s) Q) : Wp X (kLn nm) 787 (LL i) [] h (c + 1, s + 1060) Q := by
  obtain ⟨fs, h0⟩ := hI.ob
  refine wp_aload_n dL_law_787 rfl ?_
  refine wp_aload_n dL_law_788 rfl ?_
  refine wp_iload_n dL_law_789 rfl ?_
  refine wp_iconst dL_law_790 ?_
  refine wp_iadd dL_law_791 ?_
  refine wp_sld dL_law_792 hX (by omega) ?_
  refine wp_aload_n dL_law_793 rfl ?_
  refine wp_iload_n dL_law_794 rfl ?_
  refine wp_iconst dL_law_795 ?_
  refine wp_iadd dL_law_796 ?_
  refine wp_sld dL_law_797 hX (by omega) ?_
  refine wp_iv2 dL_law_798 VX6_least lL_93 h0 (b' := (c, s)) ⟨Nat.le_of_ble_eq_true rfl, Nat.le_of_ble_eq_true rfl, by show 0 + c ≤ c + 1; omega, by show 0 + s ≤ s + 1060; omega⟩ (Nat.le_of_ble_eq_true rfl) (S_least hI hB (hv _) (hv _) fun y h'  ho nx => ?_)
  obtain ⟨fs2, ho⟩ := ho
  dsimp only [pushR]
  refine wp_aload_n dL_law_801 rfl ?_
  refine wp_aload_n dL_law_802 rfl ?_
  refine wp_iload_n dL_law_803 rfl ?_
  refine wp_iconst dL_law_804 ?_
  refine wp_iadd dL_law_805 ?_
  refine wp_sld dL_law_806 hX (by omega) ?_
  refine wp_aload_n dL_law_807 rfl ?_
  refine wp_iload_n dL_law_808 rfl ?_
  refine wp_iconst dL_law_809 ?_
  refine wp_iadd dL_law_810 ?_
  refine wp_sld dL_law_811 hX (by omega) ?_
  refine wp_iv2 dL_law_812 VX7_least lL_96 ho (rq0 rfl rfl) (Nat.le_of_ble_eq_true rfl) (nx _ fun h'' hI' => ?_)
  dsimp only [pushR]
  exact wp_same 1580 dL_law_815 rfl (kt _ hI')
set_option maxHeartbeats 1000000 in
theorem W_outdated (hX : X.1 ≤ 2560) (hv : ∀ j, r32 (X.2 j)) (hi : 0 ≤ i ∧ i + 5 ≤ X.1) (hI : INV B h) (hB : 1000 ≤ B ∧ B + 108000 ≤ 8000000) (kt : ∀ h', INV (B + 3000) h' → Wp X (kLn nm) 1580 (LL i) [] h' (c, s) Q) : Wp X (kLn nm) 820 (LL i) [] h (c + 1, s + 1060) Q := by
  obtain ⟨fs, h0⟩ := hI.ob
  refine wp_aload_n dL_law_820 rfl ?_
  refine wp_aload_n dL_law_821 rfl ?_
  refine wp_iload_n dL_law_822 rfl ?_
  refine wp_iconst dL_law_823 ?_
  refine wp_iadd dL_law_824 ?_
  refine wp_sld dL_law_825 hX (by omega) ?_
  refine wp_iv1 dL_law_826 VX6_outdated lL_97 h0 (b' := (c, s)) ⟨Nat.le_of_ble_eq_true rfl, Nat.le_of_ble_eq_true rfl, by show 0 + c ≤ c + 1; omega, by show 0 + s ≤ s + 1060; omega⟩ (Nat.le_of_ble_eq_true rfl) (S_outdated hI hB (hv _) fun y h'  ho nx => ?_)
  obtain ⟨fs2, ho⟩ := ho
  dsimp only [pushR]
  refine wp_aload_n dL_law_829 rfl ?_
  refine wp_aload_n dL_law_830 rfl ?_
  refine wp_iload_n dL_law_831 rfl ?_
  refine wp_iconst dL_law_832 ?_
  refine wp_iadd dL_law_833 ?_
  refine wp_sld dL_law_834 hX (by omega) ?_
  refine wp_iv1 dL_law_835 VX7_outdated lL_100 ho (rq0 rfl rfl) (Nat.le_of_ble_eq_true rfl) (nx _ fun h'' hI' => ?_)
  dsimp only [pushR]
  exact wp_same 1580 dL_law_838 rfl (kt _ hI')
set_option maxHeartbeats 1000000 in
theorem W_lag (hX : X.1 ≤ 2560) (hv : ∀ j, r32 (X.2 j)) (hi : 0 ≤ i ∧ i + 5 ≤ X.1) (hI : INV B h) (hB : 1000 ≤ B ∧ B + 108000 ≤ 8000000) (kt : ∀ h', INV (B + 3000) h' → Wp X (kLn nm) 1580 (LL i) [] h' (c, s) Q) : Wp X (kLn nm) 843 (LL i) [] h (c + 1, s + 1060) Q := by
  obtain ⟨fs, h0⟩ := hI.ob
  refine wp_aload_n dL_law_843 rfl ?_
  refine wp_aload_n dL_law_844 rfl ?_
  refine wp_iload_n dL_law_845 rfl ?_
  refine wp_iconst dL_law_846 ?_
  refine wp_iadd dL_law_847 ?_
  refine wp_sld dL_law_848 hX (by omega) ?_
  refine wp_aload_n dL_law_849 rfl ?_
  refine wp_iload_n dL_law_850 rfl ?_
  refine wp_iconst dL_law_851 ?_
  refine wp_iadd dL_law_852 ?_
  refine wp_sld dL_law_853 hX (by omega) ?_
  refine wp_iv2 dL_law_854 VX6_lag lL_101 h0 (b' := (c, s)) ⟨Nat.le_of_ble_eq_true rfl, Nat.le_of_ble_eq_true rfl, by show 0 + c ≤ c + 1; omega, by show 0 + s ≤ s + 1060; omega⟩ (Nat.le_of_ble_eq_true rfl) (S_lag hI hB (hv _) (hv _) fun y h'  ho nx => ?_)
  obtain ⟨fs2, ho⟩ := ho
  dsimp only [pushR]
  refine wp_aload_n dL_law_857 rfl ?_
  refine wp_aload_n dL_law_858 rfl ?_
  refine wp_iload_n dL_law_859 rfl ?_
  refine wp_iconst dL_law_860 ?_
  refine wp_iadd dL_law_861 ?_
  refine wp_sld dL_law_862 hX (by omega) ?_
  refine wp_aload_n dL_law_863 rfl ?_
  refine wp_iload_n dL_law_864 rfl ?_
  refine wp_iconst dL_law_865 ?_
  refine wp_iadd dL_law_866 ?_
  refine wp_sld dL_law_867 hX (by omega) ?_
  refine wp_iv2 dL_law_868 VX7_lag lL_104 ho (rq0 rfl rfl) (Nat.le_of_ble_eq_true rfl) (nx _ fun h'' hI' => ?_)
  dsimp only [pushR]
  exact wp_same 1580 dL_law_871 rfl (kt _ hI')
set_option maxHeartbeats 1000000 in
theorem W_own (hX : X.1 ≤ 2560) (hv : ∀ j, r32 (X.2 j)) (hi : 0 ≤ i ∧ i + 5 ≤ X.1) (hI : INV B h) (hB : 1000 ≤ B ∧ B + 108000 ≤ 8000000) (kt : ∀ h', INV (B + 3000) h' → Wp X (kLn nm) 1580 (LL i) [] h' (c, s) Q) : Wp X (kLn nm) 876 (LL i) [] h (c + 1, s + 1060) Q := by
  obtain ⟨fs, h0⟩ := hI.ob
  refine wp_aload_n dL_law_876 rfl ?_
  refine wp_aload_n dL_law_877 rfl ?_
  refine wp_iload_n dL_law_878 rfl ?_
  refine wp_iconst dL_law_879 ?_
  refine wp_iadd dL_law_880 ?_
  refine wp_sld dL_law_881 hX (by omega) ?_
  refine wp_aload_n dL_law_882 rfl ?_
  refine wp_iload_n dL_law_883 rfl ?_
  refine wp_iconst dL_law_884 ?_
  refine wp_iadd dL_law_885 ?_
  refine wp_sld dL_law_886 hX (by omega) ?_
  refine wp_iv2 dL_law_887 VX6_own lL_105 h0 (b' := (c, s)) ⟨Nat.le_of_ble_eq_true rfl, Nat.le_of_ble_eq_true rfl, by show 0 + c ≤ c + 1; omega, by show 0 + s ≤ s + 1060; omega⟩ (Nat.le_of_ble_eq_true rfl) (S_own hI hB (hv _) (hv _) fun y h'  ho nx => ?_)
  obtain ⟨fs2, ho⟩ := ho
  dsimp only [pushR]
  refine wp_aload_n dL_law_890 rfl ?_
  refine wp_aload_n dL_law_891 rfl ?_
  refine wp_iload_n dL_law_892 rfl ?_
  refine wp_iconst dL_law_893 ?_
  refine wp_iadd dL_law_894 ?_
  refine wp_sld dL_law_895 hX (by omega) ?_
  refine wp_aload_n dL_law_896 rfl ?_
  refine wp_iload_n dL_law_897 rfl ?_
  refine wp_iconst dL_law_898 ?_
  refine wp_iadd dL_law_899 ?_
  refine wp_sld dL_law_900 hX (by omega) ?_
  refine wp_iv2 dL_law_901 VX7_own lL_108 ho (rq0 rfl rfl) (Nat.le_of_ble_eq_true rfl) (nx _ fun h'' hI' => ?_)
  dsimp only [pushR]
  exact wp_same 1580 dL_law_904 rfl (kt _ hI')
set_option maxHeartbeats 1000000 in
theorem W_due (hX : X.1 ≤ 2560) (hv : ∀ j, r32 (X.2 j)) (hi : 0 ≤ i ∧ i + 5 ≤ X.1) (hI : INV B h) (hB : 1000 ≤ B ∧ B + 108000 ≤ 8000000) (kt : ∀ h', INV (B + 3000) h' → Wp X (kLn nm) 1580 (LL i) [] h' (c, s) Q) : Wp X (kLn nm) 909 (LL i) [] h (c + 1, s + 1060) Q := by
  obtain ⟨fs, h0⟩ := hI.ob
  refine wp_aload_n dL_law_909 rfl ?_
  refine wp_aload_n dL_law_910 rfl ?_
  refine wp_iload_n dL_law_911 rfl ?_
  refine wp_iconst dL_law_912 ?_
  refine wp_iadd dL_law_913 ?_
  refine wp_sld dL_law_914 hX (by omega) ?_
  refine wp_aload_n dL_law_915 rfl ?_
  refine wp_iload_n dL_law_916 rfl ?_
  refine wp_iconst dL_law_917 ?_
  refine wp_iadd dL_law_918 ?_
  refine wp_sld dL_law_919 hX (by omega) ?_
  refine wp_iv2 dL_law_920 VX6_due lL_109 h0 (b' := (c, s)) ⟨Nat.le_of_ble_eq_true rfl, Nat.le_of_ble_eq_true rfl, by show 0 + c ≤ c + 1; omega, by show 0 + s ≤ s + 1060; omega⟩ (Nat.le_of_ble_eq_true rfl) (S_due hI hB (hv _) (hv _) fun y h'  ho nx => ?_)
  obtain ⟨fs2, ho⟩ := ho
  dsimp only [pushR]
  refine wp_aload_n dL_law_923 rfl ?_
  refine wp_aload_n dL_law_924 rfl ?_
  refine wp_iload_n dL_law_925 rfl ?_
  refine wp_iconst dL_law_926 ?_
  refine wp_iadd dL_law_927 ?_
  refine wp_sld dL_law_928 hX (by omega) ?_
  refine wp_aload_n dL_law_929 rfl ?_
  refine wp_iload_n dL_law_930 rfl ?_
  refine wp_iconst dL_law_931 ?_
  refine wp_iadd dL_law_932 ?_
  refine wp_sld dL_law_933 hX (by omega) ?_
  refine wp_iv2 dL_law_934 VX7_due lL_112 ho (rq0 rfl rfl) (Nat.le_of_ble_eq_true rfl) (nx _ fun h'' hI' => ?_)
  dsimp only [pushR]
  exact wp_same 1580 dL_law_937 rfl (kt _ hI')
set_option maxHeartbeats 1000000 in
theorem W_hottest (hX : X.1 ≤ 2560) (hv : ∀ j, r32 (X.2 j)) (hi : 0 ≤ i ∧ i + 5 ≤ X.1) (hI : INV B h) (hB : 1000 ≤ B ∧ B + 108000 ≤ 8000000) (kt : ∀ h', INV (B + 3000) h' → Wp X (kLn nm) 1580 (LL i) [] h' (c, s) Q) : Wp X (kLn nm) 942 (LL i) [] h (c + 1, s + 1060) Q := by
  obtain ⟨fs, h0⟩ := hI.ob
  refine wp_aload_n dL_law_942 rfl ?_
  refine wp_aload_n dL_law_943 rfl ?_
  refine wp_iload_n dL_law_944 rfl ?_
  refine wp_iconst dL_law_945 ?_
  refine wp_iadd dL_law_946 ?_
  refine wp_sld dL_law_947 hX (by omega) ?_
  refine wp_iv1 dL_law_948 VX6_hottest lL_113 h0 (b' := (c, s)) ⟨Nat.le_of_ble_eq_true rfl, Nat.le_of_ble_eq_true rfl, by show 0 + c ≤ c + 1; omega, by show 0 + s ≤ s + 1060; omega⟩ (Nat.le_of_ble_eq_true rfl) (S_hottest hI hB (hv _) fun y h'  ho nx => ?_)
  obtain ⟨fs2, ho⟩ := ho
  dsimp only [pushR]
  refine wp_aload_n dL_law_951 rfl ?_
  refine wp_aload_n dL_law_952 rfl ?_
  refine wp_iload_n dL_law_953 rfl ?_
  refine wp_iconst dL_law_954 ?_
  refine wp_iadd dL_law_955 ?_
  refine wp_sld dL_law_956 hX (by omega) ?_
  refine wp_iv1 dL_law_957 VX7_hottest lL_116 ho (rq0 rfl rfl) (Nat.le_of_ble_eq_true rfl) (nx _ fun h'' hI' => ?_)
  dsimp only [pushR]
  exact wp_same 1580 dL_law_960 rfl (kt _ hI')
set_option maxHeartbeats 1000000 in
theorem W_led (hX : X.1 ≤ 2560) (hv : ∀ j, r32 (X.2 j)) (hi : 0 ≤ i ∧ i + 5 ≤ X.1) (hI : INV B h) (hB : 1000 ≤ B ∧ B + 108000 ≤ 8000000) (kt : ∀ h', INV (B + 3000) h' → Wp X (kLn nm) 1580 (LL i) [] h' (c, s) Q) : Wp X (kLn nm) 965 (LL i) [] h (c + 1, s + 1060) Q := by
  obtain ⟨fs, h0⟩ := hI.ob
  refine wp_aload_n dL_law_965 rfl ?_
  refine wp_aload_n dL_law_966 rfl ?_
  refine wp_iload_n dL_law_967 rfl ?_
  refine wp_iconst dL_law_968 ?_
  refine wp_iadd dL_law_969 ?_
  refine wp_sld dL_law_970 hX (by omega) ?_
  refine wp_iv1 dL_law_971 VX6_led lL_117 h0 (b' := (c, s)) ⟨Nat.le_of_ble_eq_true rfl, Nat.le_of_ble_eq_true rfl, by show 0 + c ≤ c + 1; omega, by show 0 + s ≤ s + 1060; omega⟩ (Nat.le_of_ble_eq_true rfl) (S_led hI hB (hv _) fun y h'  ho nx => ?_)
  obtain ⟨fs2, ho⟩ := ho
  dsimp only [pushR]
  refine wp_aload_n dL_law_974 rfl ?_
  refine wp_aload_n dL_law_975 rfl ?_
  refine wp_iload_n dL_law_976 rfl ?_
  refine wp_iconst dL_law_977 ?_
  refine wp_iadd dL_law_978 ?_
  refine wp_sld dL_law_979 hX (by omega) ?_
  refine wp_iv1 dL_law_980 VX7_led lL_120 ho (rq0 rfl rfl) (Nat.le_of_ble_eq_true rfl) (nx _ fun h'' hI' => ?_)
  dsimp only [pushR]
  exact wp_same 1580 dL_law_983 rfl (kt _ hI')
set_option maxHeartbeats 1000000 in
theorem W_storm (hX : X.1 ≤ 2560) (hv : ∀ j, r32 (X.2 j)) (hi : 0 ≤ i ∧ i + 5 ≤ X.1) (hI : INV B h) (h1 : h[1]? = some (oO 5 [vR 2])) (hB : 1000 ≤ B ∧ B + 108000 ≤ 8000000) (kt : ∀ h', INV (B + 3000) h' → Wp X (kLn nm) 1580 (LL i) [] h' (c, s) Q) : Wp X (kLn nm) 988 (LL i) [] h (c + 1, s + 1060) Q := by
  obtain ⟨fs, h0⟩ := hI.ob
  refine wp_aload_n dL_law_988 rfl ?_
  refine wp_aload_n dL_law_989 rfl ?_
  refine wp_iload_n dL_law_990 rfl ?_
  refine wp_iconst dL_law_991 ?_
  refine wp_iadd dL_law_992 ?_
  refine wp_sld dL_law_993 hX (by omega) ?_
  refine wp_aload_n dL_law_994 rfl ?_
  refine wp_iload_n dL_law_995 rfl ?_
  refine wp_iconst dL_law_996 ?_
  refine wp_iadd dL_law_997 ?_
  refine wp_sld dL_law_998 hX (by omega) ?_
  refine wp_aload_n dL_law_999 rfl ?_
  refine wp_iload_n dL_law_1000 rfl ?_
  refine wp_iconst dL_law_1001 ?_
  refine wp_iadd dL_law_1002 ?_
  refine wp_sld dL_law_1003 hX (by omega) ?_
  refine wp_aload_n dL_law_1004 rfl ?_
  refine wp_iload_n dL_law_1005 rfl ?_
  refine wp_iconst dL_law_1006 ?_
  refine wp_iadd dL_law_1007 ?_
  refine wp_sld dL_law_1008 hX (by omega) ?_
  refine wp_iv4 dL_law_1009 VX6_storm lL_121 h0 (b' := (c, s)) ⟨Nat.le_of_ble_eq_true rfl, Nat.le_of_ble_eq_true rfl, by show 0 + c ≤ c + 1; omega, by show 0 + s ≤ s + 1060; omega⟩ (Nat.le_of_ble_eq_true rfl) (S_storm hI hB (hv _) (hv _) (hv _) (hv _) h1 fun y h'  ho nx => ?_)
  obtain ⟨fs2, ho⟩ := ho
  dsimp only [pushR]
  refine wp_aload_n dL_law_1012 rfl ?_
  refine wp_aload_n dL_law_1013 rfl ?_
  refine wp_iload_n dL_law_1014 rfl ?_
  refine wp_iconst dL_law_1015 ?_
  refine wp_iadd dL_law_1016 ?_
  refine wp_sld dL_law_1017 hX (by omega) ?_
  refine wp_aload_n dL_law_1018 rfl ?_
  refine wp_iload_n dL_law_1019 rfl ?_
  refine wp_iconst dL_law_1020 ?_
  refine wp_iadd dL_law_1021 ?_
  refine wp_sld dL_law_1022 hX (by omega) ?_
  refine wp_aload_n dL_law_1023 rfl ?_
  refine wp_iload_n dL_law_1024 rfl ?_
  refine wp_iconst dL_law_1025 ?_
  refine wp_iadd dL_law_1026 ?_
  refine wp_sld dL_law_1027 hX (by omega) ?_
  refine wp_aload_n dL_law_1028 rfl ?_
  refine wp_iload_n dL_law_1029 rfl ?_
  refine wp_iconst dL_law_1030 ?_
  refine wp_iadd dL_law_1031 ?_
  refine wp_sld dL_law_1032 hX (by omega) ?_
  refine wp_iv4 dL_law_1033 VX7_storm lL_125 ho (rq0 rfl rfl) (Nat.le_of_ble_eq_true rfl) (nx _ fun h'' hI' => ?_)
  dsimp only [pushR]
  exact wp_same 1580 dL_law_1036 rfl (kt _ hI')
set_option maxHeartbeats 1000000 in
theorem W_settled (hX : X.1 ≤ 2560) (hv : ∀ j, r32 (X.2 j)) (hi : 0 ≤ i ∧ i + 5 ≤ X.1) (hI : INV B h) (h1 : h[1]? = some (oO 5 [vR 2])) (hB : 1000 ≤ B ∧ B + 108000 ≤ 8000000) (kt : ∀ h', INV (B + 3000) h' → Wp X (kLn nm) 1580 (LL i) [] h' (c, s) Q) : Wp X (kLn nm) 1041 (LL i) [] h (c + 1, s + 1060) Q := by
  obtain ⟨fs, h0⟩ := hI.ob
  refine wp_aload_n dL_law_1041 rfl ?_
  refine wp_aload_n dL_law_1042 rfl ?_
  refine wp_iload_n dL_law_1043 rfl ?_
  refine wp_iconst dL_law_1044 ?_
  refine wp_iadd dL_law_1045 ?_
  refine wp_sld dL_law_1046 hX (by omega) ?_
  refine wp_iv1 dL_law_1047 VX6_settled lL_126 h0 (b' := (c, s)) ⟨Nat.le_of_ble_eq_true rfl, Nat.le_of_ble_eq_true rfl, by show 0 + c ≤ c + 1; omega, by show 0 + s ≤ s + 1060; omega⟩ (Nat.le_of_ble_eq_true rfl) (S_settled hI hB (hv _) h1 fun y h'  ho nx => ?_)
  obtain ⟨fs2, ho⟩ := ho
  dsimp only [pushR]
  refine wp_aload_n dL_law_1050 rfl ?_
  refine wp_aload_n dL_law_1051 rfl ?_
  refine wp_iload_n dL_law_1052 rfl ?_
  refine wp_iconst dL_law_1053 ?_
  refine wp_iadd dL_law_1054 ?_
  refine wp_sld dL_law_1055 hX (by omega) ?_
  refine wp_iv1 dL_law_1056 VX7_settled lL_129 ho (rq0 rfl rfl) (Nat.le_of_ble_eq_true rfl) (nx _ fun h'' hI' => ?_)
  dsimp only [pushR]
  exact wp_same 1580 dL_law_1059 rfl (kt _ hI')
set_option maxHeartbeats 1000000 in
theorem W_tried (hX : X.1 ≤ 2560) (hv : ∀ j, r32 (X.2 j)) (hi : 0 ≤ i ∧ i + 5 ≤ X.1) (hI : INV B h) (h1 : h[1]? = some (oO 5 [vR 2])) (hB : 1000 ≤ B ∧ B + 108000 ≤ 8000000) (kt : ∀ h', INV (B + 3000) h' → Wp X (kLn nm) 1580 (LL i) [] h' (c, s) Q) : Wp X (kLn nm) 1064 (LL i) [] h (c + 1, s + 1060) Q := by
  obtain ⟨fs, h0⟩ := hI.ob
  refine wp_aload_n dL_law_1064 rfl ?_
  refine wp_aload_n dL_law_1065 rfl ?_
  refine wp_iload_n dL_law_1066 rfl ?_
  refine wp_iconst dL_law_1067 ?_
  refine wp_iadd dL_law_1068 ?_
  refine wp_sld dL_law_1069 hX (by omega) ?_
  refine wp_aload_n dL_law_1070 rfl ?_
  refine wp_iload_n dL_law_1071 rfl ?_
  refine wp_iconst dL_law_1072 ?_
  refine wp_iadd dL_law_1073 ?_
  refine wp_sld dL_law_1074 hX (by omega) ?_
  refine wp_aload_n dL_law_1075 rfl ?_
  refine wp_iload_n dL_law_1076 rfl ?_
  refine wp_iconst dL_law_1077 ?_
  refine wp_iadd dL_law_1078 ?_
  refine wp_sld dL_law_1079 hX (by omega) ?_
  refine wp_iv3 dL_law_1080 VX6_tried lL_130 h0 (b' := (c, s)) ⟨Nat.le_of_ble_eq_true rfl, Nat.le_of_ble_eq_true rfl, by show 0 + c ≤ c + 1; omega, by show 0 + s ≤ s + 1060; omega⟩ (Nat.le_of_ble_eq_true rfl) (S_tried hI hB (hv _) (hv _) (hv _) h1 fun y h'  ho nx => ?_)
  obtain ⟨fs2, ho⟩ := ho
  dsimp only [pushR]
  refine wp_aload_n dL_law_1083 rfl ?_
  refine wp_aload_n dL_law_1084 rfl ?_
  refine wp_iload_n dL_law_1085 rfl ?_
  refine wp_iconst dL_law_1086 ?_
  refine wp_iadd dL_law_1087 ?_
  refine wp_sld dL_law_1088 hX (by omega) ?_
  refine wp_aload_n dL_law_1089 rfl ?_
  refine wp_iload_n dL_law_1090 rfl ?_
  refine wp_iconst dL_law_1091 ?_
  refine wp_iadd dL_law_1092 ?_
  refine wp_sld dL_law_1093 hX (by omega) ?_
  refine wp_aload_n dL_law_1094 rfl ?_
  refine wp_iload_n dL_law_1095 rfl ?_
  refine wp_iconst dL_law_1096 ?_
  refine wp_iadd dL_law_1097 ?_
  refine wp_sld dL_law_1098 hX (by omega) ?_
  refine wp_iv3 dL_law_1099 VX7_tried lL_133 ho (rq0 rfl rfl) (Nat.le_of_ble_eq_true rfl) (nx _ fun h'' hI' => ?_)
  dsimp only [pushR]
  exact wp_same 1580 dL_law_1102 rfl (kt _ hI')
set_option maxHeartbeats 1000000 in
theorem W_best (hX : X.1 ≤ 2560) (hv : ∀ j, r32 (X.2 j)) (hi : 0 ≤ i ∧ i + 5 ≤ X.1) (hI : INV B h) (h1 : h[1]? = some (oO 5 [vR 2])) (hB : 1000 ≤ B ∧ B + 108000 ≤ 8000000) (kt : ∀ h', INV (B + 3000) h' → Wp X (kLn nm) 1580 (LL i) [] h' (c, s) Q) : Wp X (kLn nm) 1107 (LL i) [] h (c + 1, s + 1060) Q := by
  obtain ⟨fs, h0⟩ := hI.ob
  refine wp_aload_n dL_law_1107 rfl ?_
  refine wp_aload_n dL_law_1108 rfl ?_
  refine wp_iload_n dL_law_1109 rfl ?_
  refine wp_iconst dL_law_1110 ?_
  refine wp_iadd dL_law_1111 ?_
  refine wp_sld dL_law_1112 hX (by omega) ?_
  refine wp_aload_n dL_law_1113 rfl ?_
  refine wp_iload_n dL_law_1114 rfl ?_
  refine wp_iconst dL_law_1115 ?_
  refine wp_iadd dL_law_1116 ?_
  refine wp_sld dL_law_1117 hX (by omega) ?_
  refine wp_iv2 dL_law_1118 VX6_best lL_134 h0 (b' := (c, s)) ⟨Nat.le_of_ble_eq_true rfl, Nat.le_of_ble_eq_true rfl, by show 0 + c ≤ c + 1; omega, by show 0 + s ≤ s + 1060; omega⟩ (Nat.le_of_ble_eq_true rfl) (S_best hI hB (hv _) (hv _) h1 fun y h'  ho nx => ?_)
  obtain ⟨fs2, ho⟩ := ho
  dsimp only [pushR]
  refine wp_aload_n dL_law_1121 rfl ?_
  refine wp_aload_n dL_law_1122 rfl ?_
  refine wp_iload_n dL_law_1123 rfl ?_
  refine wp_iconst dL_law_1124 ?_
  refine wp_iadd dL_law_1125 ?_
  refine wp_sld dL_law_1126 hX (by omega) ?_
  refine wp_aload_n dL_law_1127 rfl ?_
  refine wp_iload_n dL_law_1128 rfl ?_
  refine wp_iconst dL_law_1129 ?_
  refine wp_iadd dL_law_1130 ?_
  refine wp_sld dL_law_1131 hX (by omega) ?_
  refine wp_iv2 dL_law_1132 VX7_best lL_137 ho (rq0 rfl rfl) (Nat.le_of_ble_eq_true rfl) (nx _ fun h'' hI' => ?_)
  dsimp only [pushR]
  exact wp_same 1580 dL_law_1135 rfl (kt _ hI')
set_option maxHeartbeats 1000000 in
theorem W_foreseen (hX : X.1 ≤ 2560) (hv : ∀ j, r32 (X.2 j)) (hi : 0 ≤ i ∧ i + 5 ≤ X.1) (hI : INV B h) (h1 : h[1]? = some (oO 5 [vR 2])) (hB : 1000 ≤ B ∧ B + 108000 ≤ 8000000) (kt : ∀ h', INV (B + 3000) h' → Wp X (kLn nm) 1580 (LL i) [] h' (c, s) Q) : Wp X (kLn nm) 1140 (LL i) [] h (c + 1, s + 1060) Q := by
  obtain ⟨fs, h0⟩ := hI.ob
  refine wp_aload_n dL_law_1140 rfl ?_
  refine wp_aload_n dL_law_1141 rfl ?_
  refine wp_iload_n dL_law_1142 rfl ?_
  refine wp_iconst dL_law_1143 ?_
  refine wp_iadd dL_law_1144 ?_
  refine wp_sld dL_law_1145 hX (by omega) ?_
  refine wp_aload_n dL_law_1146 rfl ?_
  refine wp_iload_n dL_law_1147 rfl ?_
  refine wp_iconst dL_law_1148 ?_
  refine wp_iadd dL_law_1149 ?_
  refine wp_sld dL_law_1150 hX (by omega) ?_
  refine wp_iv2 dL_law_1151 VX6_foreseen lL_138 h0 (b' := (c, s)) ⟨Nat.le_of_ble_eq_true rfl, Nat.le_of_ble_eq_true rfl, by show 0 + c ≤ c + 1; omega, by show 0 + s ≤ s + 1060; omega⟩ (Nat.le_of_ble_eq_true rfl) (S_foreseen hI hB (hv _) (hv _) h1 fun y h'  ho nx => ?_)
  obtain ⟨fs2, ho⟩ := ho
  dsimp only [pushR]
  refine wp_aload_n dL_law_1154 rfl ?_
  refine wp_aload_n dL_law_1155 rfl ?_
  refine wp_iload_n dL_law_1156 rfl ?_
  refine wp_iconst dL_law_1157 ?_
  refine wp_iadd dL_law_1158 ?_
  refine wp_sld dL_law_1159 hX (by omega) ?_
  refine wp_aload_n dL_law_1160 rfl ?_
  refine wp_iload_n dL_law_1161 rfl ?_
  refine wp_iconst dL_law_1162 ?_
  refine wp_iadd dL_law_1163 ?_
  refine wp_sld dL_law_1164 hX (by omega) ?_
  refine wp_iv2 dL_law_1165 VX7_foreseen lL_141 ho (rq0 rfl rfl) (Nat.le_of_ble_eq_true rfl) (nx _ fun h'' hI' => ?_)
  dsimp only [pushR]
  exact wp_same 1580 dL_law_1168 rfl (kt _ hI')
set_option maxHeartbeats 1000000 in
theorem W_feed (hX : X.1 ≤ 2560) (hv : ∀ j, r32 (X.2 j)) (hi : 0 ≤ i ∧ i + 5 ≤ X.1) (hI : INV B h) (hB : 1000 ≤ B ∧ B + 108000 ≤ 8000000) (kt : ∀ h', INV (B + 3000) h' → Wp X (kLn nm) 1580 (LL i) [] h' (c, s) Q) : Wp X (kLn nm) 1173 (LL i) [] h (c + 1, s + 1060) Q := by
  obtain ⟨fs, h0⟩ := hI.ob
  refine wp_aload_n dL_law_1173 rfl ?_
  refine wp_aload_n dL_law_1174 rfl ?_
  refine wp_iload_n dL_law_1175 rfl ?_
  refine wp_iconst dL_law_1176 ?_
  refine wp_iadd dL_law_1177 ?_
  refine wp_sld dL_law_1178 hX (by omega) ?_
  refine wp_iv1 dL_law_1179 VX6_feed lL_142 h0 (b' := (c, s)) ⟨Nat.le_of_ble_eq_true rfl, Nat.le_of_ble_eq_true rfl, by show 0 + c ≤ c + 1; omega, by show 0 + s ≤ s + 1060; omega⟩ (Nat.le_of_ble_eq_true rfl) (S_feed hI hB (hv _) fun y h'  ho nx => ?_)
  obtain ⟨fs2, ho⟩ := ho
  dsimp only [pushR]
  refine wp_aload_n dL_law_1182 rfl ?_
  refine wp_aload_n dL_law_1183 rfl ?_
  refine wp_iload_n dL_law_1184 rfl ?_
  refine wp_iconst dL_law_1185 ?_
  refine wp_iadd dL_law_1186 ?_
  refine wp_sld dL_law_1187 hX (by omega) ?_
  refine wp_iv1 dL_law_1188 VX7_feed lL_145 ho (rq0 rfl rfl) (Nat.le_of_ble_eq_true rfl) (nx _ fun h'' hI' => ?_)
  dsimp only [pushR]
  exact wp_same 1580 dL_law_1191 rfl (kt _ hI')
set_option maxHeartbeats 1000000 in
theorem W_plan (hX : X.1 ≤ 2560) (hv : ∀ j, r32 (X.2 j)) (hi : 0 ≤ i ∧ i + 5 ≤ X.1) (hI : INV B h) (hB : 1000 ≤ B ∧ B + 108000 ≤ 8000000) (kt : ∀ h', INV (B + 3000) h' → Wp X (kLn nm) 1580 (LL i) [] h' (c, s) Q) : Wp X (kLn nm) 1196 (LL i) [] h (c + 1, s + 1060) Q := by
  obtain ⟨fs, h0⟩ := hI.ob
  refine wp_aload_n dL_law_1196 rfl ?_
  refine wp_aload_n dL_law_1197 rfl ?_
  refine wp_iload_n dL_law_1198 rfl ?_
  refine wp_iconst dL_law_1199 ?_
  refine wp_iadd dL_law_1200 ?_
  refine wp_sld dL_law_1201 hX (by omega) ?_
  refine wp_iv1 dL_law_1202 VX6_plan lL_146 h0 (b' := (c, s)) ⟨Nat.le_of_ble_eq_true rfl, Nat.le_of_ble_eq_true rfl, by show 0 + c ≤ c + 1; omega, by show 0 + s ≤ s + 1060; omega⟩ (Nat.le_of_ble_eq_true rfl) (S_plan hI hB (hv _) fun y h'  ho nx => ?_)
  obtain ⟨fs2, ho⟩ := ho
  dsimp only [pushR]
  refine wp_aload_n dL_law_1205 rfl ?_
  refine wp_aload_n dL_law_1206 rfl ?_
  refine wp_iload_n dL_law_1207 rfl ?_
  refine wp_iconst dL_law_1208 ?_
  refine wp_iadd dL_law_1209 ?_
  refine wp_sld dL_law_1210 hX (by omega) ?_
  refine wp_iv1 dL_law_1211 VX7_plan lL_149 ho (rq0 rfl rfl) (Nat.le_of_ble_eq_true rfl) (nx _ fun h'' hI' => ?_)
  dsimp only [pushR]
  exact wp_same 1580 dL_law_1214 rfl (kt _ hI')
set_option maxHeartbeats 1000000 in
theorem W_orders (hX : X.1 ≤ 2560) (hv : ∀ j, r32 (X.2 j)) (hi : 0 ≤ i ∧ i + 5 ≤ X.1) (hI : INV B h) (h1 : h[1]? = some (oO 5 [vR 2])) (hB : 1000 ≤ B ∧ B + 108000 ≤ 8000000) (kt : ∀ h', INV (B + 3000) h' → Wp X (kLn nm) 1580 (LL i) [] h' (c, s) Q) : Wp X (kLn nm) 1219 (LL i) [] h (c + 1, s + 1060) Q := by
  obtain ⟨fs, h0⟩ := hI.ob
  refine wp_aload_n dL_law_1219 rfl ?_
  refine wp_aload_n dL_law_1220 rfl ?_
  refine wp_iload_n dL_law_1221 rfl ?_
  refine wp_iconst dL_law_1222 ?_
  refine wp_iadd dL_law_1223 ?_
  refine wp_sld dL_law_1224 hX (by omega) ?_
  refine wp_aload_n dL_law_1225 rfl ?_
  refine wp_iload_n dL_law_1226 rfl ?_
  refine wp_iconst dL_law_1227 ?_
  refine wp_iadd dL_law_1228 ?_
  refine wp_sld dL_law_1229 hX (by omega) ?_
  refine wp_aload_n dL_law_1230 rfl ?_
  refine wp_iload_n dL_law_1231 rfl ?_
  refine wp_iconst dL_law_1232 ?_
  refine wp_iadd dL_law_1233 ?_
  refine wp_sld dL_law_1234 hX (by omega) ?_
  refine wp_iv3 dL_law_1235 VX6_orders lL_150 h0 (b' := (c, s)) ⟨Nat.le_of_ble_eq_true rfl, Nat.le_of_ble_eq_true rfl, by show 0 + c ≤ c + 1; omega, by show 0 + s ≤ s + 1060; omega⟩ (Nat.le_of_ble_eq_true rfl) (S_orders hI hB (hv _) (hv _) (hv _) h1 fun y h'  ho nx => ?_)
  obtain ⟨fs2, ho⟩ := ho
  dsimp only [pushR]
  refine wp_aload_n dL_law_1238 rfl ?_
  refine wp_aload_n dL_law_1239 rfl ?_
  refine wp_iload_n dL_law_1240 rfl ?_
  refine wp_iconst dL_law_1241 ?_
  refine wp_iadd dL_law_1242 ?_
  refine wp_sld dL_law_1243 hX (by omega) ?_
  refine wp_aload_n dL_law_1244 rfl ?_
  refine wp_iload_n dL_law_1245 rfl ?_
  refine wp_iconst dL_law_1246 ?_
  refine wp_iadd dL_law_1247 ?_
  refine wp_sld dL_law_1248 hX (by omega) ?_
  refine wp_aload_n dL_law_1249 rfl ?_
  refine wp_iload_n dL_law_1250 rfl ?_
  refine wp_iconst dL_law_1251 ?_
  refine wp_iadd dL_law_1252 ?_
  refine wp_sld dL_law_1253 hX (by omega) ?_
  refine wp_iv3 dL_law_1254 VX7_orders lL_153 ho (rq0 rfl rfl) (Nat.le_of_ble_eq_true rfl) (nx _ fun h'' hI' => ?_)
  dsimp only [pushR]
  exact wp_same 1580 dL_law_1257 rfl (kt _ hI')
set_option maxHeartbeats 1000000 in
theorem W_witness (hX : X.1 ≤ 2560) (hv : ∀ j, r32 (X.2 j)) (hi : 0 ≤ i ∧ i + 5 ≤ X.1) (hI : INV B h) (h1 : h[1]? = some (oO 5 [vR 2])) (hB : 1000 ≤ B ∧ B + 108000 ≤ 8000000) (kt : ∀ h', INV (B + 3000) h' → Wp X (kLn nm) 1580 (LL i) [] h' (c, s) Q) : Wp X (kLn nm) 1262 (LL i) [] h (c + 1, s + 1060) Q := by
  obtain ⟨fs, h0⟩ := hI.ob
  refine wp_aload_n dL_law_1262 rfl ?_
  refine wp_aload_n dL_law_1263 rfl ?_
  refine wp_iload_n dL_law_1264 rfl ?_
  refine wp_iconst dL_law_1265 ?_
  refine wp_iadd dL_law_1266 ?_
  refine wp_sld dL_law_1267 hX (by omega) ?_
  refine wp_aload_n dL_law_1268 rfl ?_
  refine wp_iload_n dL_law_1269 rfl ?_
  refine wp_iconst dL_law_1270 ?_
  refine wp_iadd dL_law_1271 ?_
  refine wp_sld dL_law_1272 hX (by omega) ?_
  refine wp_iv2 dL_law_1273 VX6_witness lL_154 h0 (b' := (c, s)) ⟨Nat.le_of_ble_eq_true rfl, Nat.le_of_ble_eq_true rfl, by show 0 + c ≤ c + 1; omega, by show 0 + s ≤ s + 1060; omega⟩ (Nat.le_of_ble_eq_true rfl) (S_witness hI hB (hv _) (hv _) h1 fun y h'  ho nx => ?_)
  obtain ⟨fs2, ho⟩ := ho
  dsimp only [pushR]
  refine wp_aload_n dL_law_1276 rfl ?_
  refine wp_aload_n dL_law_1277 rfl ?_
  refine wp_iload_n dL_law_1278 rfl ?_
  refine wp_iconst dL_law_1279 ?_
  refine wp_iadd dL_law_1280 ?_
  refine wp_sld dL_law_1281 hX (by omega) ?_
  refine wp_aload_n dL_law_1282 rfl ?_
  refine wp_iload_n dL_law_1283 rfl ?_
  refine wp_iconst dL_law_1284 ?_
  refine wp_iadd dL_law_1285 ?_
  refine wp_sld dL_law_1286 hX (by omega) ?_
  refine wp_iv2 dL_law_1287 VX7_witness lL_157 ho (rq0 rfl rfl) (Nat.le_of_ble_eq_true rfl) (nx _ fun h'' hI' => ?_)
  dsimp only [pushR]
  exact wp_same 1580 dL_law_1290 rfl (kt _ hI')
set_option maxHeartbeats 1000000 in
theorem W_row (hX : X.1 ≤ 2560) (hv : ∀ j, r32 (X.2 j)) (hi : 0 ≤ i ∧ i + 5 ≤ X.1) (hI : INV B h) (hB : 1000 ≤ B ∧ B + 108000 ≤ 8000000) (kt : ∀ h', INV (B + 3000) h' → Wp X (kLn nm) 1580 (LL i) [] h' (c, s) Q) : Wp X (kLn nm) 1295 (LL i) [] h (c + 1, s + 1060) Q := by
  obtain ⟨fs, h0⟩ := hI.ob
  refine wp_aload_n dL_law_1295 rfl ?_
  refine wp_aload_n dL_law_1296 rfl ?_
  refine wp_iload_n dL_law_1297 rfl ?_
  refine wp_iconst dL_law_1298 ?_
  refine wp_iadd dL_law_1299 ?_
  refine wp_sld dL_law_1300 hX (by omega) ?_
  refine wp_aload_n dL_law_1301 rfl ?_
  refine wp_iload_n dL_law_1302 rfl ?_
  refine wp_iconst dL_law_1303 ?_
  refine wp_iadd dL_law_1304 ?_
  refine wp_sld dL_law_1305 hX (by omega) ?_
  refine wp_iv2 dL_law_1306 VX6_row lL_158 h0 (b' := (c, s)) ⟨Nat.le_of_ble_eq_true rfl, Nat.le_of_ble_eq_true rfl, by show 0 + c ≤ c + 1; omega, by show 0 + s ≤ s + 1060; omega⟩ (Nat.le_of_ble_eq_true rfl) (S_row hI hB (hv _) (hv _) fun y h'  ho nx => ?_)
  obtain ⟨fs2, ho⟩ := ho
  dsimp only [pushR]
  refine wp_aload_n dL_law_1309 rfl ?_
  refine wp_aload_n dL_law_1310 rfl ?_
  refine wp_iload_n dL_law_1311 rfl ?_
  refine wp_iconst dL_law_1312 ?_
  refine wp_iadd dL_law_1313 ?_
  refine wp_sld dL_law_1314 hX (by omega) ?_
  refine wp_aload_n dL_law_1315 rfl ?_
  refine wp_iload_n dL_law_1316 rfl ?_
  refine wp_iconst dL_law_1317 ?_
  refine wp_iadd dL_law_1318 ?_
  refine wp_sld dL_law_1319 hX (by omega) ?_
  refine wp_iv2 dL_law_1320 VX7_row lL_161 ho (rq0 rfl rfl) (Nat.le_of_ble_eq_true rfl) (nx _ fun h'' hI' => ?_)
  dsimp only [pushR]
  exact wp_same 1580 dL_law_1323 rfl (kt _ hI')
set_option maxHeartbeats 1000000 in
theorem W_put (hX : X.1 ≤ 2560) (hv : ∀ j, r32 (X.2 j)) (hi : 0 ≤ i ∧ i + 5 ≤ X.1) (hI : INV B h) (hB : 1000 ≤ B ∧ B + 108000 ≤ 8000000) (kt : ∀ h', INV (B + 3000) h' → Wp X (kLn nm) 1580 (LL i) [] h' (c, s) Q) : Wp X (kLn nm) 1328 (LL i) [] h (c + 1, s + 1060) Q := by
  obtain ⟨fs, h0⟩ := hI.ob
  refine wp_aload_n dL_law_1328 rfl ?_
  refine wp_aload_n dL_law_1329 rfl ?_
  refine wp_iload_n dL_law_1330 rfl ?_
  refine wp_iconst dL_law_1331 ?_
  refine wp_iadd dL_law_1332 ?_
  refine wp_sld dL_law_1333 hX (by omega) ?_
  refine wp_aload_n dL_law_1334 rfl ?_
  refine wp_iload_n dL_law_1335 rfl ?_
  refine wp_iconst dL_law_1336 ?_
  refine wp_iadd dL_law_1337 ?_
  refine wp_sld dL_law_1338 hX (by omega) ?_
  refine wp_aload_n dL_law_1339 rfl ?_
  refine wp_iload_n dL_law_1340 rfl ?_
  refine wp_iconst dL_law_1341 ?_
  refine wp_iadd dL_law_1342 ?_
  refine wp_sld dL_law_1343 hX (by omega) ?_
  refine wp_i2l dL_law_1344 (hv _) ?_
  refine wp_bipush dL_law_1345 rfl ?_
  refine wp_lshl (z := shx (X.2 (i + 3))) dL_law_1347 (Int64.ofInt_toInt _).symm ?_
  refine wp_aload_n dL_law_1348 rfl ?_
  refine wp_iload_n dL_law_1349 rfl ?_
  refine wp_iconst dL_law_1350 ?_
  refine wp_iadd dL_law_1351 ?_
  refine wp_sld dL_law_1352 hX (by omega) ?_
  refine wp_i2l dL_law_1353 (hv _) ?_
  refine wp_ldc2 dL_law_1354 cL_162 ?_
  refine wp_land (z := lax (X.2 (i + 4))) dL_law_1357 (Int64.ofInt_toInt _).symm ?_
  refine wp_lor (z := lox (X.2 (i + 3)) (X.2 (i + 4))) dL_law_1358 (Int64.ofInt_toInt _).symm ?_
  refine wp_iv3 dL_law_1359 VX6_put lL_164 h0 (b' := (c, s)) ⟨Nat.le_of_ble_eq_true rfl, Nat.le_of_ble_eq_true rfl, by show 0 + c ≤ c + 1; omega, by show 0 + s ≤ s + 1060; omega⟩ (Nat.le_of_ble_eq_true rfl) (S_put hI hB (hv _) (hv _) (lox_r _ _) fun y h'  ho nx => ?_)
  obtain ⟨fs2, ho⟩ := ho
  dsimp only [pushR]
  refine wp_aload_n dL_law_1362 rfl ?_
  refine wp_aload_n dL_law_1363 rfl ?_
  refine wp_iload_n dL_law_1364 rfl ?_
  refine wp_iconst dL_law_1365 ?_
  refine wp_iadd dL_law_1366 ?_
  refine wp_sld dL_law_1367 hX (by omega) ?_
  refine wp_aload_n dL_law_1368 rfl ?_
  refine wp_iload_n dL_law_1369 rfl ?_
  refine wp_iconst dL_law_1370 ?_
  refine wp_iadd dL_law_1371 ?_
  refine wp_sld dL_law_1372 hX (by omega) ?_
  refine wp_aload_n dL_law_1373 rfl ?_
  refine wp_iload_n dL_law_1374 rfl ?_
  refine wp_iconst dL_law_1375 ?_
  refine wp_iadd dL_law_1376 ?_
  refine wp_sld dL_law_1377 hX (by omega) ?_
  refine wp_i2l dL_law_1378 (hv _) ?_
  refine wp_bipush dL_law_1379 rfl ?_
  refine wp_lshl (z := shx (X.2 (i + 3))) dL_law_1381 (Int64.ofInt_toInt _).symm ?_
  refine wp_aload_n dL_law_1382 rfl ?_
  refine wp_iload_n dL_law_1383 rfl ?_
  refine wp_iconst dL_law_1384 ?_
  refine wp_iadd dL_law_1385 ?_
  refine wp_sld dL_law_1386 hX (by omega) ?_
  refine wp_i2l dL_law_1387 (hv _) ?_
  refine wp_ldc2 dL_law_1388 cL_162 ?_
  refine wp_land (z := lax (X.2 (i + 4))) dL_law_1391 (Int64.ofInt_toInt _).symm ?_
  refine wp_lor (z := lox (X.2 (i + 3)) (X.2 (i + 4))) dL_law_1392 (Int64.ofInt_toInt _).symm ?_
  refine wp_iv3 dL_law_1393 VX7_put lL_168 ho (rq0 rfl rfl) (Nat.le_of_ble_eq_true rfl) (nx _ fun h'' hI' => ?_)
  dsimp only [pushR]
  exact wp_same 1580 dL_law_1396 rfl (kt _ hI')
set_option maxHeartbeats 1000000 in
theorem W_element (hX : X.1 ≤ 2560) (hv : ∀ j, r32 (X.2 j)) (hi : 0 ≤ i ∧ i + 5 ≤ X.1) (hI : INV B h) (hB : 1000 ≤ B ∧ B + 108000 ≤ 8000000) (kt : ∀ h', INV (B + 3000) h' → Wp X (kLn nm) 1580 (LL i) [] h' (c, s) Q) : Wp X (kLn nm) 1401 (LL i) [] h (c + 1, s + 1060) Q := by
  obtain ⟨fs, h0⟩ := hI.ob
  refine wp_aload_n dL_law_1401 rfl ?_
  refine wp_aload_n dL_law_1402 rfl ?_
  refine wp_iload_n dL_law_1403 rfl ?_
  refine wp_iconst dL_law_1404 ?_
  refine wp_iadd dL_law_1405 ?_
  refine wp_sld dL_law_1406 hX (by omega) ?_
  refine wp_aload_n dL_law_1407 rfl ?_
  refine wp_iload_n dL_law_1408 rfl ?_
  refine wp_iconst dL_law_1409 ?_
  refine wp_iadd dL_law_1410 ?_
  refine wp_sld dL_law_1411 hX (by omega) ?_
  refine wp_iv2 dL_law_1412 VX6_element lL_169 h0 (b' := (c, s)) ⟨Nat.le_of_ble_eq_true rfl, Nat.le_of_ble_eq_true rfl, by show 0 + c ≤ c + 1; omega, by show 0 + s ≤ s + 1060; omega⟩ (Nat.le_of_ble_eq_true rfl) (S_element hI hB (hv _) (hv _) fun y h' ry ho nx => ?_)
  obtain ⟨fs2, ho⟩ := ho
  dsimp only [pushR]
  refine wp_aload_n dL_law_1415 rfl ?_
  refine wp_aload_n dL_law_1416 rfl ?_
  refine wp_iload_n dL_law_1417 rfl ?_
  refine wp_iconst dL_law_1418 ?_
  refine wp_iadd dL_law_1419 ?_
  refine wp_sld dL_law_1420 hX (by omega) ?_
  refine wp_aload_n dL_law_1421 rfl ?_
  refine wp_iload_n dL_law_1422 rfl ?_
  refine wp_iconst dL_law_1423 ?_
  refine wp_iadd dL_law_1424 ?_
  refine wp_sld dL_law_1425 hX (by omega) ?_
  refine wp_iv2 dL_law_1426 VX7_element lL_173 ho (rq0 rfl rfl) (Nat.le_of_ble_eq_true rfl) (nx _ fun h'' hI' => ?_)
  dsimp only [pushR]
  exact wp_lc_eq 1580 dL_law_1429 dL_law_1430 rfl ry ry (fun _ => kt _ hI') (fun q => absurd rfl q)
set_option maxHeartbeats 1000000 in
theorem W_save (hX : X.1 ≤ 2560) (hv : ∀ j, r32 (X.2 j)) (hi : 0 ≤ i ∧ i + 5 ≤ X.1) (hI : INV B h) (hB : 1000 ≤ B ∧ B + 108000 ≤ 8000000) (kt : ∀ h', INV (B + 3000) h' → Wp X (kLn nm) 1580 (LL i) [] h' (c, s) Q) : Wp X (kLn nm) 1435 (LL i) [] h (c + 1, s + 1060) Q := by
  obtain ⟨fs, h0⟩ := hI.ob
  refine wp_aload_n dL_law_1435 rfl ?_
  refine wp_aload_n dL_law_1436 rfl ?_
  refine wp_iload_n dL_law_1437 rfl ?_
  refine wp_iconst dL_law_1438 ?_
  refine wp_iadd dL_law_1439 ?_
  refine wp_sld dL_law_1440 hX (by omega) ?_
  refine wp_aload_n dL_law_1441 rfl ?_
  refine wp_iload_n dL_law_1442 rfl ?_
  refine wp_iconst dL_law_1443 ?_
  refine wp_iadd dL_law_1444 ?_
  refine wp_sld dL_law_1445 hX (by omega) ?_
  refine wp_aload_n dL_law_1446 rfl ?_
  refine wp_iload_n dL_law_1447 rfl ?_
  refine wp_iconst dL_law_1448 ?_
  refine wp_iadd dL_law_1449 ?_
  refine wp_sld dL_law_1450 hX (by omega) ?_
  refine wp_iv3 dL_law_1451 VX6_save lL_174 h0 (b' := (c, s)) ⟨Nat.le_of_ble_eq_true rfl, Nat.le_of_ble_eq_true rfl, by show 0 + c ≤ c + 1; omega, by show 0 + s ≤ s + 1060; omega⟩ (Nat.le_of_ble_eq_true rfl) (S_save hI hB (hv _) (hv _) (hv _) fun y h'  ho nx => ?_)
  obtain ⟨fs2, ho⟩ := ho
  dsimp only [pushR]
  refine wp_aload_n dL_law_1454 rfl ?_
  refine wp_aload_n dL_law_1455 rfl ?_
  refine wp_iload_n dL_law_1456 rfl ?_
  refine wp_iconst dL_law_1457 ?_
  refine wp_iadd dL_law_1458 ?_
  refine wp_sld dL_law_1459 hX (by omega) ?_
  refine wp_aload_n dL_law_1460 rfl ?_
  refine wp_iload_n dL_law_1461 rfl ?_
  refine wp_iconst dL_law_1462 ?_
  refine wp_iadd dL_law_1463 ?_
  refine wp_sld dL_law_1464 hX (by omega) ?_
  refine wp_aload_n dL_law_1465 rfl ?_
  refine wp_iload_n dL_law_1466 rfl ?_
  refine wp_iconst dL_law_1467 ?_
  refine wp_iadd dL_law_1468 ?_
  refine wp_sld dL_law_1469 hX (by omega) ?_
  refine wp_iv3 dL_law_1470 VX7_save lL_177 ho (rq0 rfl rfl) (Nat.le_of_ble_eq_true rfl) (nx _ fun h'' hI' => ?_)
  dsimp only [pushR]
  exact wp_same 1580 dL_law_1473 rfl (kt _ hI')
set_option maxHeartbeats 1000000 in
theorem W_restore (hX : X.1 ≤ 2560) (hv : ∀ j, r32 (X.2 j)) (hi : 0 ≤ i ∧ i + 5 ≤ X.1) (hI : INV B h) (hB : 1000 ≤ B ∧ B + 108000 ≤ 8000000) (kt : ∀ h', INV (B + 3000) h' → Wp X (kLn nm) 1580 (LL i) [] h' (c, s) Q) : Wp X (kLn nm) 1478 (LL i) [] h (c + 1, s + 1060) Q := by
  obtain ⟨fs, h0⟩ := hI.ob
  refine wp_aload_n dL_law_1478 rfl ?_
  refine wp_aload_n dL_law_1479 rfl ?_
  refine wp_iload_n dL_law_1480 rfl ?_
  refine wp_iconst dL_law_1481 ?_
  refine wp_iadd dL_law_1482 ?_
  refine wp_sld dL_law_1483 hX (by omega) ?_
  refine wp_aload_n dL_law_1484 rfl ?_
  refine wp_iload_n dL_law_1485 rfl ?_
  refine wp_iconst dL_law_1486 ?_
  refine wp_iadd dL_law_1487 ?_
  refine wp_sld dL_law_1488 hX (by omega) ?_
  refine wp_aload_n dL_law_1489 rfl ?_
  refine wp_iload_n dL_law_1490 rfl ?_
  refine wp_iconst dL_law_1491 ?_
  refine wp_iadd dL_law_1492 ?_
  refine wp_sld dL_law_1493 hX (by omega) ?_
  refine wp_aload_n dL_law_1494 rfl ?_
  refine wp_iload_n dL_law_1495 rfl ?_
  refine wp_iconst dL_law_1496 ?_
  refine wp_iadd dL_law_1497 ?_
  refine wp_sld dL_law_1498 hX (by omega) ?_
  refine wp_iv4 dL_law_1499 VX6_restore lL_178 h0 (b' := (c, s)) ⟨Nat.le_of_ble_eq_true rfl, Nat.le_of_ble_eq_true rfl, by show 1 + c ≤ c + 1; omega, by show 1060 + s ≤ s + 1060; omega⟩ (Nat.le_of_ble_eq_true rfl) (S_restore hI hB (hv _) (hv _) (hv _) (hv _) fun y h'  ho nx => ?_)
  obtain ⟨fs2, ho⟩ := ho
  dsimp only [pushR]
  refine wp_aload_n dL_law_1502 rfl ?_
  refine wp_aload_n dL_law_1503 rfl ?_
  refine wp_iload_n dL_law_1504 rfl ?_
  refine wp_iconst dL_law_1505 ?_
  refine wp_iadd dL_law_1506 ?_
  refine wp_sld dL_law_1507 hX (by omega) ?_
  refine wp_aload_n dL_law_1508 rfl ?_
  refine wp_iload_n dL_law_1509 rfl ?_
  refine wp_iconst dL_law_1510 ?_
  refine wp_iadd dL_law_1511 ?_
  refine wp_sld dL_law_1512 hX (by omega) ?_
  refine wp_aload_n dL_law_1513 rfl ?_
  refine wp_iload_n dL_law_1514 rfl ?_
  refine wp_iconst dL_law_1515 ?_
  refine wp_iadd dL_law_1516 ?_
  refine wp_sld dL_law_1517 hX (by omega) ?_
  refine wp_aload_n dL_law_1518 rfl ?_
  refine wp_iload_n dL_law_1519 rfl ?_
  refine wp_iconst dL_law_1520 ?_
  refine wp_iadd dL_law_1521 ?_
  refine wp_sld dL_law_1522 hX (by omega) ?_
  refine wp_iv4 dL_law_1523 VX7_restore lL_181 ho (rq0 rfl rfl) (Nat.le_of_ble_eq_true rfl) (nx _ fun h'' hI' => ?_)
  dsimp only [pushR]
  exact wp_same 1580 dL_law_1526 rfl (kt _ hI')
set_option maxHeartbeats 1000000 in
theorem W_image (hX : X.1 ≤ 2560) (hv : ∀ j, r32 (X.2 j)) (hi : 0 ≤ i ∧ i + 5 ≤ X.1) (hI : INV B h) (hB : 1000 ≤ B ∧ B + 108000 ≤ 8000000) (kt : ∀ h', INV (B + 3000) h' → Wp X (kLn nm) 1580 (LL i) [] h' (c, s) Q) : Wp X (kLn nm) 1531 (LL i) [] h (c + 1, s + 1060) Q := by
  obtain ⟨fs, h0⟩ := hI.ob
  refine wp_aload_n dL_law_1531 rfl ?_
  refine wp_iv0 dL_law_1532 VX6_image lL_182 h0 (b' := (c, s)) ⟨Nat.le_of_ble_eq_true rfl, Nat.le_of_ble_eq_true rfl, by show 1 + c ≤ c + 1; omega, by show 1060 + s ≤ s + 1060; omega⟩ (Nat.le_of_ble_eq_true rfl) (S_image hI hB  fun y h'  ho nx => ?_)
  obtain ⟨fs2, ho⟩ := ho
  dsimp only [pushR]
  refine wp_aload_n dL_law_1535 rfl ?_
  refine wp_iv0 dL_law_1536 VX7_image lL_185 ho (rq0 rfl rfl) (Nat.le_of_ble_eq_true rfl) (nx _ fun h'' hI' => ?_)
  dsimp only [pushR]
  exact wp_same 1580 dL_law_1539 rfl (kt _ hI')
set_option maxHeartbeats 1000000 in
theorem W_back (hX : X.1 ≤ 2560) (hv : ∀ j, r32 (X.2 j)) (hi : 0 ≤ i ∧ i + 5 ≤ X.1) (hI : INV B h) (hB : 1000 ≤ B ∧ B + 108000 ≤ 8000000) (kt : ∀ h', INV (B + 3000) h' → Wp X (kLn nm) 1580 (LL i) [] h' (c, s) Q) : Wp X (kLn nm) 1544 (LL i) [] h (c + 1, s + 1060) Q := by
  obtain ⟨fs, h0⟩ := hI.ob
  refine wp_aload_n dL_law_1544 rfl ?_
  refine wp_iv0 dL_law_1545 VX6_back lL_186 h0 (b' := (c, s)) ⟨Nat.le_of_ble_eq_true rfl, Nat.le_of_ble_eq_true rfl, by show 1 + c ≤ c + 1; omega, by show 1060 + s ≤ s + 1060; omega⟩ (Nat.le_of_ble_eq_true rfl) (S_back hI hB  fun y h'  ho nx => ?_)
  obtain ⟨fs2, ho⟩ := ho
  dsimp only [pushR]
  refine wp_aload_n dL_law_1548 rfl ?_
  refine wp_iv0 dL_law_1549 VX7_back lL_189 ho (rq0 rfl rfl) (Nat.le_of_ble_eq_true rfl) (nx _ fun h'' hI' => ?_)
  dsimp only [pushR]
  exact wp_same 1580 dL_law_1552 rfl (kt _ hI')
set_option maxHeartbeats 1000000 in
theorem W_count (hX : X.1 ≤ 2560) (hv : ∀ j, r32 (X.2 j)) (hi : 0 ≤ i ∧ i + 5 ≤ X.1) (hI : INV B h) (hB : 1000 ≤ B ∧ B + 108000 ≤ 8000000) (kt : ∀ h', INV (B + 3000) h' → Wp X (kLn nm) 1580 (LL i) [] h' (c, s) Q) : Wp X (kLn nm) 1557 (LL i) [] h (c + 1, s + 1060) Q := by
  obtain ⟨fs, h0⟩ := hI.ob
  refine wp_aload_n dL_law_1557 rfl ?_
  refine wp_aload_n dL_law_1558 rfl ?_
  refine wp_iload_n dL_law_1559 rfl ?_
  refine wp_iconst dL_law_1560 ?_
  refine wp_iadd dL_law_1561 ?_
  refine wp_sld dL_law_1562 hX (by omega) ?_
  refine wp_iv1 dL_law_1563 VX6_count lL_190 h0 (b' := (c, s)) ⟨Nat.le_of_ble_eq_true rfl, Nat.le_of_ble_eq_true rfl, by show 0 + c ≤ c + 1; omega, by show 0 + s ≤ s + 1060; omega⟩ (Nat.le_of_ble_eq_true rfl) (S_count hI hB (hv _) fun y h'  ho nx => ?_)
  obtain ⟨fs2, ho⟩ := ho
  dsimp only [pushR]
  refine wp_aload_n dL_law_1566 rfl ?_
  refine wp_aload_n dL_law_1567 rfl ?_
  refine wp_iload_n dL_law_1568 rfl ?_
  refine wp_iconst dL_law_1569 ?_
  refine wp_iadd dL_law_1570 ?_
  refine wp_sld dL_law_1571 hX (by omega) ?_
  refine wp_iv1 dL_law_1572 VX7_count lL_193 ho (rq0 rfl rfl) (Nat.le_of_ble_eq_true rfl) (nx _ fun h'' hI' => ?_)
  dsimp only [pushR]
  exact wp_same 1580 dL_law_1575 rfl (kt _ hI')
end WL_
