theorem lc_plan {F : zF} {n : Nat} {S : Nat → Int} {M : zM} {i : Int} (hF : zScr F n S) (hn : n < 2 ^ 31) (hR : ∀ j, -2147483648 ≤ S j ∧ S j < 2147483648) (hi : 0 ≤ i ∧ i + 6 ≤ n) (hS : Sim M) (k : ∀ K, SimN M K → Z RL cL_law 4 (some .boolean) 40 F 1445 [some (vR 96), some (vR 0), some (vR 75), some (vI i)] [] K) : Z RL cL_law 4 (some .boolean) 40 F 208 [some (vR 96), some (vR 0), some (vR 75), some (vI i)] [] M := by
  refine z_aload_1 dL_law_208 ?_
  refine z_aload_0 dL_law_209 ?_
  refine z_iload_3 dL_law_210 ?_
  refine z_iconst dL_law_211 ?_
  refine z_iadd dL_law_212 ?_
  refine z_scrl hF hn (by omega) dL_law_213 ?_
  refine z_aload_0 dL_law_214 ?_
  refine z_iload_3 dL_law_215 ?_
  refine z_iconst dL_law_216 ?_
  refine z_iadd dL_law_217 ?_
  refine z_scrl hF hn (by omega) dL_law_218 ?_
  obtain ⟨v_, P_, h6_, h7_⟩ := s_plan hS (hR _) (hR _)
  refine z_rVI yv_X6_plan ml_L_13 h6_ zk_0 rfl rfl (by decide) (Nat.le_of_ble_eq_true rfl) dL_law_219 (fun N_ hN_ => ?_)
  obtain ⟨P2_, h8_, h9_⟩ := h7_ N_ hN_
  refine z_aload_2 dL_law_222 ?_
  refine z_aload_0 dL_law_223 ?_
  refine z_iload_3 dL_law_224 ?_
  refine z_iconst dL_law_225 ?_
  refine z_iadd dL_law_226 ?_
  refine z_scrl hF hn (by omega) dL_law_227 ?_
  refine z_aload_0 dL_law_228 ?_
  refine z_iload_3 dL_law_229 ?_
  refine z_iconst dL_law_230 ?_
  refine z_iadd dL_law_231 ?_
  refine z_scrl hF hn (by omega) dL_law_232 ?_
  refine z_rVI yv_X7_plan ml_L_17 h8_ zk_75 rfl rfl (by decide) (Nat.le_of_ble_eq_true rfl) dL_law_233 (fun K_ hK_ => ?_)
  exact z_sameI (tgt := 1445) dL_law_236 (by decide) (k K_ (h9_ K_ hK_))
theorem lc_move {F : zF} {n : Nat} {S : Nat → Int} {M : zM} {i : Int} (hF : zScr F n S) (hn : n < 2 ^ 31) (hR : ∀ j, -2147483648 ≤ S j ∧ S j < 2147483648) (hi : 0 ≤ i ∧ i + 6 ≤ n) (hS : Sim M) (k : ∀ K, SimN M K → Z RL cL_law 4 (some .boolean) 40 F 1445 [some (vR 96), some (vR 0), some (vR 75), some (vI i)] [] K) : Z RL cL_law 4 (some .boolean) 40 F 241 [some (vR 96), some (vR 0), some (vR 75), some (vI i)] [] M := by
  refine z_aload_1 dL_law_241 ?_
  refine z_aload_0 dL_law_242 ?_
  refine z_iload_3 dL_law_243 ?_
  refine z_iconst dL_law_244 ?_
  refine z_iadd dL_law_245 ?_
  refine z_scrl hF hn (by omega) dL_law_246 ?_
  obtain ⟨v_, P_, h6_, h7_⟩ := s_move hS (hR _)
  refine z_rVI yv_X6_move ml_L_18 h6_ zk_0 rfl rfl (by decide) (Nat.le_of_ble_eq_true rfl) dL_law_247 (fun N_ hN_ => ?_)
  obtain ⟨P2_, h8_, h9_⟩ := h7_ N_ hN_
  refine z_aload_2 dL_law_250 ?_
  refine z_aload_0 dL_law_251 ?_
  refine z_iload_3 dL_law_252 ?_
  refine z_iconst dL_law_253 ?_
  refine z_iadd dL_law_254 ?_
  refine z_scrl hF hn (by omega) dL_law_255 ?_
  refine z_rVI yv_X7_move ml_L_22 h8_ zk_75 rfl rfl (by decide) (Nat.le_of_ble_eq_true rfl) dL_law_256 (fun K_ hK_ => ?_)
  exact z_sameI (tgt := 1445) dL_law_259 (by decide) (k K_ (h9_ K_ hK_))
theorem lc_may {F : zF} {n : Nat} {S : Nat → Int} {M : zM} {i : Int} (hF : zScr F n S) (hn : n < 2 ^ 31) (hR : ∀ j, -2147483648 ≤ S j ∧ S j < 2147483648) (hi : 0 ≤ i ∧ i + 6 ≤ n) (hS : Sim M) (k : ∀ K, SimN M K → Z RL cL_law 4 (some .boolean) 40 F 1445 [some (vR 96), some (vR 0), some (vR 75), some (vI i)] [] K) : Z RL cL_law 4 (some .boolean) 40 F 264 [some (vR 96), some (vR 0), some (vR 75), some (vI i)] [] M := by
  refine z_aload_1 dL_law_264 ?_
  refine z_aload_0 dL_law_265 ?_
  refine z_iload_3 dL_law_266 ?_
  refine z_iconst dL_law_267 ?_
  refine z_iadd dL_law_268 ?_
  refine z_scrl hF hn (by omega) dL_law_269 ?_
  obtain ⟨v_, P_, h6_, h7_⟩ := s_may hS (hR _)
  refine z_rVI yv_X6_may ml_L_23 h6_ zk_0 rfl rfl (by decide) (Nat.le_of_ble_eq_true rfl) dL_law_270 (fun N_ hN_ => ?_)
  obtain ⟨P2_, h8_, h9_⟩ := h7_ N_ hN_
  refine z_aload_2 dL_law_273 ?_
  refine z_aload_0 dL_law_274 ?_
  refine z_iload_3 dL_law_275 ?_
  refine z_iconst dL_law_276 ?_
  refine z_iadd dL_law_277 ?_
  refine z_scrl hF hn (by omega) dL_law_278 ?_
  refine z_rVI yv_X7_may ml_L_26 h8_ zk_75 rfl rfl (by decide) (Nat.le_of_ble_eq_true rfl) dL_law_279 (fun K_ hK_ => ?_)
  exact z_sameI (tgt := 1445) dL_law_282 (by decide) (k K_ (h9_ K_ hK_))
theorem lc_days {F : zF} {n : Nat} {S : Nat → Int} {M : zM} {i : Int} (hF : zScr F n S) (hn : n < 2 ^ 31) (hR : ∀ j, -2147483648 ≤ S j ∧ S j < 2147483648) (hi : 0 ≤ i ∧ i + 6 ≤ n) (hS : Sim M) (k : ∀ K, SimN M K → Z RL cL_law 4 (some .boolean) 40 F 1445 [some (vR 96), some (vR 0), some (vR 75), some (vI i)] [] K) : Z RL cL_law 4 (some .boolean) 40 F 287 [some (vR 96), some (vR 0), some (vR 75), some (vI i)] [] M := by
  refine z_aload_1 dL_law_287 ?_
  refine z_aload_0 dL_law_288 ?_
  refine z_iload_3 dL_law_289 ?_
  refine z_iconst dL_law_290 ?_
  refine z_iadd dL_law_291 ?_
  refine z_scrl hF hn (by omega) dL_law_292 ?_
  obtain ⟨v_, P_, h6_, h7_⟩ := s_days hS (hR _)
  refine z_rVI yv_X6_days ml_L_27 h6_ zk_0 rfl rfl (by decide) (Nat.le_of_ble_eq_true rfl) dL_law_293 (fun N_ hN_ => ?_)
  obtain ⟨P2_, h8_, h9_⟩ := h7_ N_ hN_
  refine z_aload_2 dL_law_296 ?_
  refine z_aload_0 dL_law_297 ?_
  refine z_iload_3 dL_law_298 ?_
  refine z_iconst dL_law_299 ?_
  refine z_iadd dL_law_300 ?_
  refine z_scrl hF hn (by omega) dL_law_301 ?_
  refine z_rVI yv_X7_days ml_L_30 h8_ zk_75 rfl rfl (by decide) (Nat.le_of_ble_eq_true rfl) dL_law_302 (fun K_ hK_ => ?_)
  exact z_sameI (tgt := 1445) dL_law_305 (by decide) (k K_ (h9_ K_ hK_))
theorem lc_runs {F : zF} {n : Nat} {S : Nat → Int} {M : zM} {i : Int} (hF : zScr F n S) (hn : n < 2 ^ 31) (hR : ∀ j, -2147483648 ≤ S j ∧ S j < 2147483648) (hi : 0 ≤ i ∧ i + 6 ≤ n) (hS : Sim M) (k : ∀ K, SimN M K → Z RL cL_law 4 (some .boolean) 40 F 1445 [some (vR 96), some (vR 0), some (vR 75), some (vI i)] [] K) : Z RL cL_law 4 (some .boolean) 40 F 310 [some (vR 96), some (vR 0), some (vR 75), some (vI i)] [] M := by
  refine z_aload_1 dL_law_310 ?_
  refine z_aload_0 dL_law_311 ?_
  refine z_iload_3 dL_law_312 ?_
  refine z_iconst dL_law_313 ?_
  refine z_iadd dL_law_314 ?_
  refine z_scrl hF hn (by omega) dL_law_315 ?_
  obtain ⟨v_, P_, h6_, h7_⟩ := s_runs hS (hR _)
  refine z_rVI yv_X6_runs ml_L_31 h6_ zk_0 rfl rfl (by decide) (Nat.le_of_ble_eq_true rfl) dL_law_316 (fun N_ hN_ => ?_)
  obtain ⟨P2_, h8_, h9_⟩ := h7_ N_ hN_
  refine z_aload_2 dL_law_319 ?_
  refine z_aload_0 dL_law_320 ?_
  refine z_iload_3 dL_law_321 ?_
  refine z_iconst dL_law_322 ?_
  refine z_iadd dL_law_323 ?_
  refine z_scrl hF hn (by omega) dL_law_324 ?_
  refine z_rVI yv_X7_runs ml_L_34 h8_ zk_75 rfl rfl (by decide) (Nat.le_of_ble_eq_true rfl) dL_law_325 (fun K_ hK_ => ?_)
  exact z_sameI (tgt := 1445) dL_law_328 (by decide) (k K_ (h9_ K_ hK_))
theorem lc_thing {F : zF} {n : Nat} {S : Nat → Int} {M : zM} {i : Int} (hF : zScr F n S) (hn : n < 2 ^ 31) (hR : ∀ j, -2147483648 ≤ S j ∧ S j < 2147483648) (hi : 0 ≤ i ∧ i + 6 ≤ n) (hS : Sim M) (k : ∀ K, SimN M K → Z RL cL_law 4 (some .boolean) 40 F 1445 [some (vR 96), some (vR 0), some (vR 75), some (vI i)] [] K) : Z RL cL_law 4 (some .boolean) 40 F 333 [some (vR 96), some (vR 0), some (vR 75), some (vI i)] [] M := by
  refine z_aload_1 dL_law_333 ?_
  refine z_aload_0 dL_law_334 ?_
  refine z_iload_3 dL_law_335 ?_
  refine z_iconst dL_law_336 ?_
  refine z_iadd dL_law_337 ?_
  refine z_scrl hF hn (by omega) dL_law_338 ?_
  obtain ⟨v_, P_, h6_, h7_⟩ := s_thing hS (hR _)
  refine z_rVJ yv_X6_thing ml_L_35 h6_ zk_0 rfl rfl (by decide) (Nat.le_of_ble_eq_true rfl) dL_law_339 (fun N_ hN_ => ?_)
  obtain ⟨P2_, h8_, h9_⟩ := h7_ N_ hN_
  refine z_aload_2 dL_law_342 ?_
  refine z_aload_0 dL_law_343 ?_
  refine z_iload_3 dL_law_344 ?_
  refine z_iconst dL_law_345 ?_
  refine z_iadd dL_law_346 ?_
  refine z_scrl hF hn (by omega) dL_law_347 ?_
  refine z_rVJ yv_X7_thing ml_L_39 h8_ zk_75 rfl rfl (by decide) (Nat.le_of_ble_eq_true rfl) dL_law_348 (fun K_ hK_ => ?_)
  exact z_sameJ (tgt := 1445) dL_law_351 dL_law_352 (by decide) (k K_ (h9_ K_ hK_))
theorem lc_warn {F : zF} {n : Nat} {S : Nat → Int} {M : zM} {i : Int} (hF : zScr F n S) (hn : n < 2 ^ 31) (hR : ∀ j, -2147483648 ≤ S j ∧ S j < 2147483648) (hi : 0 ≤ i ∧ i + 6 ≤ n) (hS : Sim M) (k : ∀ K, SimN M K → Z RL cL_law 4 (some .boolean) 40 F 1445 [some (vR 96), some (vR 0), some (vR 75), some (vI i)] [] K) : Z RL cL_law 4 (some .boolean) 40 F 357 [some (vR 96), some (vR 0), some (vR 75), some (vI i)] [] M := by
  refine z_aload_1 dL_law_357 ?_
  refine z_aload_0 dL_law_358 ?_
  refine z_iload_3 dL_law_359 ?_
  refine z_iconst dL_law_360 ?_
  refine z_iadd dL_law_361 ?_
  refine z_scrl hF hn (by omega) dL_law_362 ?_
  refine z_aload_0 dL_law_363 ?_
  refine z_iload_3 dL_law_364 ?_
  refine z_iconst dL_law_365 ?_
  refine z_iadd dL_law_366 ?_
  refine z_scrl hF hn (by omega) dL_law_367 ?_
  refine z_aload_0 dL_law_368 ?_
  refine z_iload_3 dL_law_369 ?_
  refine z_iconst dL_law_370 ?_
  refine z_iadd dL_law_371 ?_
  refine z_scrl hF hn (by omega) dL_law_372 ?_
  obtain ⟨v_, P_, h6_, h7_⟩ := s_warn hS (hR _) (hR _) (hR _)
  refine z_rVI yv_X6_warn ml_L_40 h6_ zk_0 rfl rfl (by decide) (Nat.le_of_ble_eq_true rfl) dL_law_373 (fun N_ hN_ => ?_)
  obtain ⟨P2_, h8_, h9_⟩ := h7_ N_ hN_
  refine z_aload_2 dL_law_376 ?_
  refine z_aload_0 dL_law_377 ?_
  refine z_iload_3 dL_law_378 ?_
  refine z_iconst dL_law_379 ?_
  refine z_iadd dL_law_380 ?_
  refine z_scrl hF hn (by omega) dL_law_381 ?_
  refine z_aload_0 dL_law_382 ?_
  refine z_iload_3 dL_law_383 ?_
  refine z_iconst dL_law_384 ?_
  refine z_iadd dL_law_385 ?_
  refine z_scrl hF hn (by omega) dL_law_386 ?_
  refine z_aload_0 dL_law_387 ?_
  refine z_iload_3 dL_law_388 ?_
  refine z_iconst dL_law_389 ?_
  refine z_iadd dL_law_390 ?_
  refine z_scrl hF hn (by omega) dL_law_391 ?_
  refine z_rVI yv_X7_warn ml_L_44 h8_ zk_75 rfl rfl (by decide) (Nat.le_of_ble_eq_true rfl) dL_law_392 (fun K_ hK_ => ?_)
  exact z_sameI (tgt := 1445) dL_law_395 (by decide) (k K_ (h9_ K_ hK_))
theorem lc_of {F : zF} {n : Nat} {S : Nat → Int} {M : zM} {i : Int} (hF : zScr F n S) (hn : n < 2 ^ 31) (hR : ∀ j, -2147483648 ≤ S j ∧ S j < 2147483648) (hi : 0 ≤ i ∧ i + 6 ≤ n) (hS : Sim M) (k : ∀ K, SimN M K → Z RL cL_law 4 (some .boolean) 40 F 1445 [some (vR 96), some (vR 0), some (vR 75), some (vI i)] [] K) : Z RL cL_law 4 (some .boolean) 40 F 400 [some (vR 96), some (vR 0), some (vR 75), some (vI i)] [] M := by
  refine z_aload_1 dL_law_400 ?_
  refine z_aload_0 dL_law_401 ?_
  refine z_iload_3 dL_law_402 ?_
  refine z_iconst dL_law_403 ?_
  refine z_iadd dL_law_404 ?_
  refine z_scrl hF hn (by omega) dL_law_405 ?_
  refine z_aload_0 dL_law_406 ?_
  refine z_iload_3 dL_law_407 ?_
  refine z_iconst dL_law_408 ?_
  refine z_iadd dL_law_409 ?_
  refine z_scrl hF hn (by omega) dL_law_410 ?_
  obtain ⟨v_, P_, h6_, h7_⟩ := s_of hS (hR _) (hR _)
  refine z_rVI yv_X6_of ml_L_45 h6_ zk_0 rfl rfl (by decide) (Nat.le_of_ble_eq_true rfl) dL_law_411 (fun N_ hN_ => ?_)
  obtain ⟨P2_, h8_, h9_⟩ := h7_ N_ hN_
  refine z_aload_2 dL_law_414 ?_
  refine z_aload_0 dL_law_415 ?_
  refine z_iload_3 dL_law_416 ?_
  refine z_iconst dL_law_417 ?_
  refine z_iadd dL_law_418 ?_
  refine z_scrl hF hn (by omega) dL_law_419 ?_
  refine z_aload_0 dL_law_420 ?_
  refine z_iload_3 dL_law_421 ?_
  refine z_iconst dL_law_422 ?_
  refine z_iadd dL_law_423 ?_
  refine z_scrl hF hn (by omega) dL_law_424 ?_
  refine z_rVI yv_X7_of ml_L_48 h8_ zk_75 rfl rfl (by decide) (Nat.le_of_ble_eq_true rfl) dL_law_425 (fun K_ hK_ => ?_)
  exact z_sameI (tgt := 1445) dL_law_428 (by decide) (k K_ (h9_ K_ hK_))
theorem lc_as {F : zF} {n : Nat} {S : Nat → Int} {M : zM} {i : Int} (hF : zScr F n S) (hn : n < 2 ^ 31) (hR : ∀ j, -2147483648 ≤ S j ∧ S j < 2147483648) (hi : 0 ≤ i ∧ i + 6 ≤ n) (hS : Sim M) (k : ∀ K, SimN M K → Z RL cL_law 4 (some .boolean) 40 F 1445 [some (vR 96), some (vR 0), some (vR 75), some (vI i)] [] K) : Z RL cL_law 4 (some .boolean) 40 F 433 [some (vR 96), some (vR 0), some (vR 75), some (vI i)] [] M := by
  refine z_aload_1 dL_law_433 ?_
  refine z_aload_0 dL_law_434 ?_
  refine z_iload_3 dL_law_435 ?_
  refine z_iconst dL_law_436 ?_
  refine z_iadd dL_law_437 ?_
  refine z_scrl hF hn (by omega) dL_law_438 ?_
  refine z_aload_0 dL_law_439 ?_
  refine z_iload_3 dL_law_440 ?_
  refine z_iconst dL_law_441 ?_
  refine z_iadd dL_law_442 ?_
  refine z_scrl hF hn (by omega) dL_law_443 ?_
  obtain ⟨v_, P_, h6_, h7_⟩ := s_as hS (hR _) (hR _)
  refine z_rVI yv_X6_as ml_L_49 h6_ zk_0 rfl rfl (by decide) (Nat.le_of_ble_eq_true rfl) dL_law_444 (fun N_ hN_ => ?_)
  obtain ⟨P2_, h8_, h9_⟩ := h7_ N_ hN_
  refine z_aload_2 dL_law_447 ?_
  refine z_aload_0 dL_law_448 ?_
  refine z_iload_3 dL_law_449 ?_
  refine z_iconst dL_law_450 ?_
  refine z_iadd dL_law_451 ?_
  refine z_scrl hF hn (by omega) dL_law_452 ?_
  refine z_aload_0 dL_law_453 ?_
  refine z_iload_3 dL_law_454 ?_
  refine z_iconst dL_law_455 ?_
  refine z_iadd dL_law_456 ?_
  refine z_scrl hF hn (by omega) dL_law_457 ?_
  refine z_rVI yv_X7_as ml_L_52 h8_ zk_75 rfl rfl (by decide) (Nat.le_of_ble_eq_true rfl) dL_law_458 (fun K_ hK_ => ?_)
  exact z_sameI (tgt := 1445) dL_law_461 (by decide) (k K_ (h9_ K_ hK_))
theorem lc_struck {F : zF} {n : Nat} {S : Nat → Int} {M : zM} {i : Int} (hF : zScr F n S) (hn : n < 2 ^ 31) (hR : ∀ j, -2147483648 ≤ S j ∧ S j < 2147483648) (hi : 0 ≤ i ∧ i + 6 ≤ n) (hS : Sim M) (k : ∀ K, SimN M K → Z RL cL_law 4 (some .boolean) 40 F 1445 [some (vR 96), some (vR 0), some (vR 75), some (vI i)] [] K) : Z RL cL_law 4 (some .boolean) 40 F 466 [some (vR 96), some (vR 0), some (vR 75), some (vI i)] [] M := by
  refine z_aload_1 dL_law_466 ?_
  refine z_aload_0 dL_law_467 ?_
  refine z_iload_3 dL_law_468 ?_
  refine z_iconst dL_law_469 ?_
  refine z_iadd dL_law_470 ?_
  refine z_scrl hF hn (by omega) dL_law_471 ?_
  refine z_aload_0 dL_law_472 ?_
  refine z_iload_3 dL_law_473 ?_
  refine z_iconst dL_law_474 ?_
  refine z_iadd dL_law_475 ?_
  refine z_scrl hF hn (by omega) dL_law_476 ?_
  obtain ⟨v_, P_, h6_, h7_⟩ := s_struck hS (hR _) (hR _)
  refine z_rVI yv_X6_struck ml_L_53 h6_ zk_0 rfl rfl (by decide) (Nat.le_of_ble_eq_true rfl) dL_law_477 (fun N_ hN_ => ?_)
  obtain ⟨P2_, h8_, h9_⟩ := h7_ N_ hN_
  refine z_aload_2 dL_law_480 ?_
  refine z_aload_0 dL_law_481 ?_
  refine z_iload_3 dL_law_482 ?_
  refine z_iconst dL_law_483 ?_
  refine z_iadd dL_law_484 ?_
  refine z_scrl hF hn (by omega) dL_law_485 ?_
  refine z_aload_0 dL_law_486 ?_
  refine z_iload_3 dL_law_487 ?_
  refine z_iconst dL_law_488 ?_
  refine z_iadd dL_law_489 ?_
  refine z_scrl hF hn (by omega) dL_law_490 ?_
  refine z_rVI yv_X7_struck ml_L_56 h8_ zk_75 rfl rfl (by decide) (Nat.le_of_ble_eq_true rfl) dL_law_491 (fun K_ hK_ => ?_)
  exact z_sameI (tgt := 1445) dL_law_494 (by decide) (k K_ (h9_ K_ hK_))
theorem lc_look {F : zF} {n : Nat} {S : Nat → Int} {M : zM} {i : Int} (hF : zScr F n S) (hn : n < 2 ^ 31) (hR : ∀ j, -2147483648 ≤ S j ∧ S j < 2147483648) (hi : 0 ≤ i ∧ i + 6 ≤ n) (hS : Sim M) (k : ∀ K, SimN M K → Z RL cL_law 4 (some .boolean) 40 F 1445 [some (vR 96), some (vR 0), some (vR 75), some (vI i)] [] K) : Z RL cL_law 4 (some .boolean) 40 F 499 [some (vR 96), some (vR 0), some (vR 75), some (vI i)] [] M := by
  refine z_aload_1 dL_law_499 ?_
  refine z_aload_0 dL_law_500 ?_
  refine z_iload_3 dL_law_501 ?_
  refine z_iconst dL_law_502 ?_
  refine z_iadd dL_law_503 ?_
  refine z_scrl hF hn (by omega) dL_law_504 ?_
  refine z_aload_0 dL_law_505 ?_
  refine z_iload_3 dL_law_506 ?_
  refine z_iconst dL_law_507 ?_
  refine z_iadd dL_law_508 ?_
  refine z_scrl hF hn (by omega) dL_law_509 ?_
  refine z_aload_0 dL_law_510 ?_
  refine z_iload_3 dL_law_511 ?_
  refine z_iconst dL_law_512 ?_
  refine z_iadd dL_law_513 ?_
  refine z_scrl hF hn (by omega) dL_law_514 ?_
  refine z_if_eq (tgt := 522) (hR _) dL_law_515 (by decide) (fun c_ => ?_) (fun c_ => ?_)
  · skip
    refine z_iconst dL_law_522 ?_
    obtain ⟨v_, P_, h6_, h7_⟩ := s_look hS (hR _) (hR _) (Or.inl rfl)
    refine z_rVI yv_X6_look ml_L_57 h6_ zk_0 rfl rfl (by decide) (Nat.le_of_ble_eq_true rfl) dL_law_523 (fun N_ hN_ => ?_)
    obtain ⟨P2_, h8_, h9_⟩ := h7_ N_ hN_
    refine z_aload_2 dL_law_526 ?_
    refine z_aload_0 dL_law_527 ?_
    refine z_iload_3 dL_law_528 ?_
    refine z_iconst dL_law_529 ?_
    refine z_iadd dL_law_530 ?_
    refine z_scrl hF hn (by omega) dL_law_531 ?_
    refine z_aload_0 dL_law_532 ?_
    refine z_iload_3 dL_law_533 ?_
    refine z_iconst dL_law_534 ?_
    refine z_iadd dL_law_535 ?_
    refine z_scrl hF hn (by omega) dL_law_536 ?_
    refine z_aload_0 dL_law_537 ?_
    refine z_iload_3 dL_law_538 ?_
    refine z_iconst dL_law_539 ?_
    refine z_iadd dL_law_540 ?_
    refine z_scrl hF hn (by omega) dL_law_541 ?_
    refine z_if_eq (tgt := 549) (hR _) dL_law_542 (by decide) (fun _ => ?_) (fun e_ => absurd c_ e_)
    refine z_iconst dL_law_549 ?_
    refine z_rVI yv_X7_look ml_L_61 h8_ zk_75 rfl rfl (by decide) (Nat.le_of_ble_eq_true rfl) dL_law_550 (fun K_ hK_ => ?_)
    exact z_sameI (tgt := 1445) dL_law_553 (by decide) (k K_ (h9_ K_ hK_))
  · skip
    refine z_iconst dL_law_518 ?_
    refine z_goto (tgt := 523) dL_law_519 (by decide) ?_
    obtain ⟨v_, P_, h6_, h7_⟩ := s_look hS (hR _) (hR _) (Or.inr rfl)
    refine z_rVI yv_X6_look ml_L_57 h6_ zk_0 rfl rfl (by decide) (Nat.le_of_ble_eq_true rfl) dL_law_523 (fun N_ hN_ => ?_)
    obtain ⟨P2_, h8_, h9_⟩ := h7_ N_ hN_
    refine z_aload_2 dL_law_526 ?_
    refine z_aload_0 dL_law_527 ?_
    refine z_iload_3 dL_law_528 ?_
    refine z_iconst dL_law_529 ?_
    refine z_iadd dL_law_530 ?_
    refine z_scrl hF hn (by omega) dL_law_531 ?_
    refine z_aload_0 dL_law_532 ?_
    refine z_iload_3 dL_law_533 ?_
    refine z_iconst dL_law_534 ?_
    refine z_iadd dL_law_535 ?_
    refine z_scrl hF hn (by omega) dL_law_536 ?_
    refine z_aload_0 dL_law_537 ?_
    refine z_iload_3 dL_law_538 ?_
    refine z_iconst dL_law_539 ?_
    refine z_iadd dL_law_540 ?_
    refine z_scrl hF hn (by omega) dL_law_541 ?_
    refine z_if_eq (tgt := 549) (hR _) dL_law_542 (by decide) (fun e_ => absurd e_ c_) (fun _ => ?_)
    refine z_iconst dL_law_545 ?_
    refine z_goto (tgt := 550) dL_law_546 (by decide) ?_
    refine z_rVI yv_X7_look ml_L_61 h8_ zk_75 rfl rfl (by decide) (Nat.le_of_ble_eq_true rfl) dL_law_550 (fun K_ hK_ => ?_)
    exact z_sameI (tgt := 1445) dL_law_553 (by decide) (k K_ (h9_ K_ hK_))
theorem lc_think {F : zF} {n : Nat} {S : Nat → Int} {M : zM} {i : Int} (hF : zScr F n S) (hn : n < 2 ^ 31) (hR : ∀ j, -2147483648 ≤ S j ∧ S j < 2147483648) (hi : 0 ≤ i ∧ i + 6 ≤ n) (hS : Sim M) (k : ∀ K, SimN M K → Z RL cL_law 4 (some .boolean) 40 F 1445 [some (vR 96), some (vR 0), some (vR 75), some (vI i)] [] K) : Z RL cL_law 4 (some .boolean) 40 F 558 [some (vR 96), some (vR 0), some (vR 75), some (vI i)] [] M := by
  refine z_aload_1 dL_law_558 ?_
  refine z_aload_0 dL_law_559 ?_
  refine z_iload_3 dL_law_560 ?_
  refine z_iconst dL_law_561 ?_
  refine z_iadd dL_law_562 ?_
  refine z_scrl hF hn (by omega) dL_law_563 ?_
  refine z_aload_0 dL_law_564 ?_
  refine z_iload_3 dL_law_565 ?_
  refine z_iconst dL_law_566 ?_
  refine z_iadd dL_law_567 ?_
  refine z_scrl hF hn (by omega) dL_law_568 ?_
  refine z_aload_0 dL_law_569 ?_
  refine z_iload_3 dL_law_570 ?_
  refine z_iconst dL_law_571 ?_
  refine z_iadd dL_law_572 ?_
  refine z_scrl hF hn (by omega) dL_law_573 ?_
  refine z_if_eq (tgt := 581) (hR _) dL_law_574 (by decide) (fun c_ => ?_) (fun c_ => ?_)
  · skip
    refine z_iconst dL_law_581 ?_
    obtain ⟨v_, P_, h6_, h7_⟩ := s_think hS (hR _) (hR _) (Or.inl rfl)
    refine z_rVI yv_X6_think ml_L_62 h6_ zk_0 rfl rfl (by decide) (Nat.le_of_ble_eq_true rfl) dL_law_582 (fun N_ hN_ => ?_)
    obtain ⟨P2_, h8_, h9_⟩ := h7_ N_ hN_
    refine z_aload_2 dL_law_585 ?_
    refine z_aload_0 dL_law_586 ?_
    refine z_iload_3 dL_law_587 ?_
    refine z_iconst dL_law_588 ?_
    refine z_iadd dL_law_589 ?_
    refine z_scrl hF hn (by omega) dL_law_590 ?_
    refine z_aload_0 dL_law_591 ?_
    refine z_iload_3 dL_law_592 ?_
    refine z_iconst dL_law_593 ?_
    refine z_iadd dL_law_594 ?_
    refine z_scrl hF hn (by omega) dL_law_595 ?_
    refine z_aload_0 dL_law_596 ?_
    refine z_iload_3 dL_law_597 ?_
    refine z_iconst dL_law_598 ?_
    refine z_iadd dL_law_599 ?_
    refine z_scrl hF hn (by omega) dL_law_600 ?_
    refine z_if_eq (tgt := 608) (hR _) dL_law_601 (by decide) (fun _ => ?_) (fun e_ => absurd c_ e_)
    refine z_iconst dL_law_608 ?_
    refine z_rVI yv_X7_think ml_L_65 h8_ zk_75 rfl rfl (by decide) (Nat.le_of_ble_eq_true rfl) dL_law_609 (fun K_ hK_ => ?_)
    exact z_sameI (tgt := 1445) dL_law_612 (by decide) (k K_ (h9_ K_ hK_))
  · skip
    refine z_iconst dL_law_577 ?_
    refine z_goto (tgt := 582) dL_law_578 (by decide) ?_
    obtain ⟨v_, P_, h6_, h7_⟩ := s_think hS (hR _) (hR _) (Or.inr rfl)
    refine z_rVI yv_X6_think ml_L_62 h6_ zk_0 rfl rfl (by decide) (Nat.le_of_ble_eq_true rfl) dL_law_582 (fun N_ hN_ => ?_)
    obtain ⟨P2_, h8_, h9_⟩ := h7_ N_ hN_
    refine z_aload_2 dL_law_585 ?_
    refine z_aload_0 dL_law_586 ?_
    refine z_iload_3 dL_law_587 ?_
    refine z_iconst dL_law_588 ?_
    refine z_iadd dL_law_589 ?_
    refine z_scrl hF hn (by omega) dL_law_590 ?_
    refine z_aload_0 dL_law_591 ?_
    refine z_iload_3 dL_law_592 ?_
    refine z_iconst dL_law_593 ?_
    refine z_iadd dL_law_594 ?_
    refine z_scrl hF hn (by omega) dL_law_595 ?_
    refine z_aload_0 dL_law_596 ?_
    refine z_iload_3 dL_law_597 ?_
    refine z_iconst dL_law_598 ?_
    refine z_iadd dL_law_599 ?_
    refine z_scrl hF hn (by omega) dL_law_600 ?_
    refine z_if_eq (tgt := 608) (hR _) dL_law_601 (by decide) (fun e_ => absurd e_ c_) (fun _ => ?_)
    refine z_iconst dL_law_604 ?_
    refine z_goto (tgt := 609) dL_law_605 (by decide) ?_
    refine z_rVI yv_X7_think ml_L_65 h8_ zk_75 rfl rfl (by decide) (Nat.le_of_ble_eq_true rfl) dL_law_609 (fun K_ hK_ => ?_)
    exact z_sameI (tgt := 1445) dL_law_612 (by decide) (k K_ (h9_ K_ hK_))
theorem lc_danger {F : zF} {n : Nat} {S : Nat → Int} {M : zM} {i : Int} (hF : zScr F n S) (hn : n < 2 ^ 31) (hR : ∀ j, -2147483648 ≤ S j ∧ S j < 2147483648) (hi : 0 ≤ i ∧ i + 6 ≤ n) (hS : Sim M) (k : ∀ K, SimN M K → Z RL cL_law 4 (some .boolean) 40 F 1445 [some (vR 96), some (vR 0), some (vR 75), some (vI i)] [] K) : Z RL cL_law 4 (some .boolean) 40 F 617 [some (vR 96), some (vR 0), some (vR 75), some (vI i)] [] M := by
  refine z_aload_1 dL_law_617 ?_
  refine z_aload_0 dL_law_618 ?_
  refine z_iload_3 dL_law_619 ?_
  refine z_iconst dL_law_620 ?_
  refine z_iadd dL_law_621 ?_
  refine z_scrl hF hn (by omega) dL_law_622 ?_
  refine z_aload_0 dL_law_623 ?_
  refine z_iload_3 dL_law_624 ?_
  refine z_iconst dL_law_625 ?_
  refine z_iadd dL_law_626 ?_
  refine z_scrl hF hn (by omega) dL_law_627 ?_
  obtain ⟨v_, P_, h6_, h7_⟩ := s_danger hS (hR _) (hR _)
  refine z_rVI yv_X6_danger ml_L_66 h6_ zk_0 rfl rfl (by decide) (Nat.le_of_ble_eq_true rfl) dL_law_628 (fun N_ hN_ => ?_)
  obtain ⟨P2_, h8_, h9_⟩ := h7_ N_ hN_
  refine z_aload_2 dL_law_631 ?_
  refine z_aload_0 dL_law_632 ?_
  refine z_iload_3 dL_law_633 ?_
  refine z_iconst dL_law_634 ?_
  refine z_iadd dL_law_635 ?_
  refine z_scrl hF hn (by omega) dL_law_636 ?_
  refine z_aload_0 dL_law_637 ?_
  refine z_iload_3 dL_law_638 ?_
  refine z_iconst dL_law_639 ?_
  refine z_iadd dL_law_640 ?_
  refine z_scrl hF hn (by omega) dL_law_641 ?_
  refine z_rVI yv_X7_danger ml_L_69 h8_ zk_75 rfl rfl (by decide) (Nat.le_of_ble_eq_true rfl) dL_law_642 (fun K_ hK_ => ?_)
  exact z_sameI (tgt := 1445) dL_law_645 (by decide) (k K_ (h9_ K_ hK_))
theorem lc_safest {F : zF} {n : Nat} {S : Nat → Int} {M : zM} {i : Int} (hF : zScr F n S) (hn : n < 2 ^ 31) (hR : ∀ j, -2147483648 ≤ S j ∧ S j < 2147483648) (hi : 0 ≤ i ∧ i + 6 ≤ n) (hS : Sim M) (k : ∀ K, SimN M K → Z RL cL_law 4 (some .boolean) 40 F 1445 [some (vR 96), some (vR 0), some (vR 75), some (vI i)] [] K) : Z RL cL_law 4 (some .boolean) 40 F 650 [some (vR 96), some (vR 0), some (vR 75), some (vI i)] [] M := by
  refine z_aload_1 dL_law_650 ?_
  refine z_aload_0 dL_law_651 ?_
  refine z_iload_3 dL_law_652 ?_
  refine z_iconst dL_law_653 ?_
  refine z_iadd dL_law_654 ?_
  refine z_scrl hF hn (by omega) dL_law_655 ?_
  obtain ⟨v_, P_, h6_, h7_⟩ := s_safest hS (hR _)
  refine z_rVI yv_X6_safest ml_L_70 h6_ zk_0 rfl rfl (by decide) (Nat.le_of_ble_eq_true rfl) dL_law_656 (fun N_ hN_ => ?_)
  obtain ⟨P2_, h8_, h9_⟩ := h7_ N_ hN_
  refine z_aload_2 dL_law_659 ?_
  refine z_aload_0 dL_law_660 ?_
  refine z_iload_3 dL_law_661 ?_
  refine z_iconst dL_law_662 ?_
  refine z_iadd dL_law_663 ?_
  refine z_scrl hF hn (by omega) dL_law_664 ?_
  refine z_rVI yv_X7_safest ml_L_73 h8_ zk_75 rfl rfl (by decide) (Nat.le_of_ble_eq_true rfl) dL_law_665 (fun K_ hK_ => ?_)
  exact z_sameI (tgt := 1445) dL_law_668 (by decide) (k K_ (h9_ K_ hK_))
theorem lc_open {F : zF} {n : Nat} {S : Nat → Int} {M : zM} {i : Int} (hF : zScr F n S) (hn : n < 2 ^ 31) (hR : ∀ j, -2147483648 ≤ S j ∧ S j < 2147483648) (hi : 0 ≤ i ∧ i + 6 ≤ n) (hS : Sim M) (k : ∀ K, SimN M K → Z RL cL_law 4 (some .boolean) 40 F 1445 [some (vR 96), some (vR 0), some (vR 75), some (vI i)] [] K) : Z RL cL_law 4 (some .boolean) 40 F 673 [some (vR 96), some (vR 0), some (vR 75), some (vI i)] [] M := by
  refine z_aload_1 dL_law_673 ?_
  obtain ⟨v_, P_, h6_, h7_⟩ := s_open hS 
  refine z_rVI yv_X6_open ml_L_74 h6_ zk_0 rfl rfl (by decide) (Nat.le_of_ble_eq_true rfl) dL_law_674 (fun N_ hN_ => ?_)
  obtain ⟨P2_, h8_, h9_⟩ := h7_ N_ hN_
  refine z_aload_2 dL_law_677 ?_
  refine z_rVI yv_X7_open ml_L_78 h8_ zk_75 rfl rfl (by decide) (Nat.le_of_ble_eq_true rfl) dL_law_678 (fun K_ hK_ => ?_)
  exact z_sameI (tgt := 1445) dL_law_681 (by decide) (k K_ (h9_ K_ hK_))
theorem lc_feed {F : zF} {n : Nat} {S : Nat → Int} {M : zM} {i : Int} (hF : zScr F n S) (hn : n < 2 ^ 31) (hR : ∀ j, -2147483648 ≤ S j ∧ S j < 2147483648) (hi : 0 ≤ i ∧ i + 6 ≤ n) (hS : Sim M) (k : ∀ K, SimN M K → Z RL cL_law 4 (some .boolean) 40 F 1445 [some (vR 96), some (vR 0), some (vR 75), some (vI i)] [] K) : Z RL cL_law 4 (some .boolean) 40 F 686 [some (vR 96), some (vR 0), some (vR 75), some (vI i)] [] M := by
  refine z_aload_1 dL_law_686 ?_
  refine z_aload_0 dL_law_687 ?_
  refine z_iload_3 dL_law_688 ?_
  refine z_iconst dL_law_689 ?_
  refine z_iadd dL_law_690 ?_
  refine z_scrl hF hn (by omega) dL_law_691 ?_
  refine z_aload_0 dL_law_692 ?_
  refine z_iload_3 dL_law_693 ?_
  refine z_iconst dL_law_694 ?_
  refine z_iadd dL_law_695 ?_
  refine z_scrl hF hn (by omega) dL_law_696 ?_
  obtain ⟨v_, P_, h6_, h7_⟩ := s_feed hS (hR _) (hR _)
  refine z_rVI yv_X6_feed ml_L_79 h6_ zk_0 rfl rfl (by decide) (Nat.le_of_ble_eq_true rfl) dL_law_697 (fun N_ hN_ => ?_)
  obtain ⟨P2_, h8_, h9_⟩ := h7_ N_ hN_
  refine z_aload_2 dL_law_700 ?_
  refine z_aload_0 dL_law_701 ?_
  refine z_iload_3 dL_law_702 ?_
  refine z_iconst dL_law_703 ?_
  refine z_iadd dL_law_704 ?_
  refine z_scrl hF hn (by omega) dL_law_705 ?_
  refine z_aload_0 dL_law_706 ?_
  refine z_iload_3 dL_law_707 ?_
  refine z_iconst dL_law_708 ?_
  refine z_iadd dL_law_709 ?_
  refine z_scrl hF hn (by omega) dL_law_710 ?_
  refine z_rVI yv_X7_feed ml_L_82 h8_ zk_75 rfl rfl (by decide) (Nat.le_of_ble_eq_true rfl) dL_law_711 (fun K_ hK_ => ?_)
  exact z_sameI (tgt := 1445) dL_law_714 (by decide) (k K_ (h9_ K_ hK_))
theorem lc_wipe {F : zF} {n : Nat} {S : Nat → Int} {M : zM} {i : Int} (hF : zScr F n S) (hn : n < 2 ^ 31) (hR : ∀ j, -2147483648 ≤ S j ∧ S j < 2147483648) (hi : 0 ≤ i ∧ i + 6 ≤ n) (hS : Sim M) (k : ∀ K, SimN M K → Z RL cL_law 4 (some .boolean) 40 F 1445 [some (vR 96), some (vR 0), some (vR 75), some (vI i)] [] K) : Z RL cL_law 4 (some .boolean) 40 F 719 [some (vR 96), some (vR 0), some (vR 75), some (vI i)] [] M := by
  refine z_aload_1 dL_law_719 ?_
  obtain ⟨v_, P_, h6_, h7_⟩ := s_wipe hS 
  refine z_rVI yv_X6_wipe ml_L_83 h6_ zk_0 rfl rfl (by decide) (Nat.le_of_ble_eq_true rfl) dL_law_720 (fun N_ hN_ => ?_)
  obtain ⟨P2_, h8_, h9_⟩ := h7_ N_ hN_
  refine z_aload_2 dL_law_723 ?_
  refine z_rVI yv_X7_wipe ml_L_86 h8_ zk_75 rfl rfl (by decide) (Nat.le_of_ble_eq_true rfl) dL_law_724 (fun K_ hK_ => ?_)
  exact z_sameI (tgt := 1445) dL_law_727 (by decide) (k K_ (h9_ K_ hK_))
theorem lc_rule {F : zF} {n : Nat} {S : Nat → Int} {M : zM} {i : Int} (hF : zScr F n S) (hn : n < 2 ^ 31) (hR : ∀ j, -2147483648 ≤ S j ∧ S j < 2147483648) (hi : 0 ≤ i ∧ i + 6 ≤ n) (hS : Sim M) (k : ∀ K, SimN M K → Z RL cL_law 4 (some .boolean) 40 F 1445 [some (vR 96), some (vR 0), some (vR 75), some (vI i)] [] K) : Z RL cL_law 4 (some .boolean) 40 F 732 [some (vR 96), some (vR 0), some (vR 75), some (vI i)] [] M := by
  refine z_aload_1 dL_law_732 ?_
  obtain ⟨v_, P_, h6_, h7_⟩ := s_rule hS 
  refine z_rVI yv_X6_rule ml_L_87 h6_ zk_0 rfl rfl (by decide) (Nat.le_of_ble_eq_true rfl) dL_law_733 (fun N_ hN_ => ?_)
  obtain ⟨P2_, h8_, h9_⟩ := h7_ N_ hN_
  refine z_aload_2 dL_law_736 ?_
  refine z_rVI yv_X7_rule ml_L_90 h8_ zk_75 rfl rfl (by decide) (Nat.le_of_ble_eq_true rfl) dL_law_737 (fun K_ hK_ => ?_)
  exact z_sameI (tgt := 1445) dL_law_740 (by decide) (k K_ (h9_ K_ hK_))
theorem lc_drift {F : zF} {n : Nat} {S : Nat → Int} {M : zM} {i : Int} (hF : zScr F n S) (hn : n < 2 ^ 31) (hR : ∀ j, -2147483648 ≤ S j ∧ S j < 2147483648) (hi : 0 ≤ i ∧ i + 6 ≤ n) (hS : Sim M) (k : ∀ K, SimN M K → Z RL cL_law 4 (some .boolean) 40 F 1445 [some (vR 96), some (vR 0), some (vR 75), some (vI i)] [] K) : Z RL cL_law 4 (some .boolean) 40 F 745 [some (vR 96), some (vR 0), some (vR 75), some (vI i)] [] M := by
  refine z_aload_1 dL_law_745 ?_
  obtain ⟨v_, P_, h6_, h7_⟩ := s_drift hS 
  refine z_rVI yv_X6_drift ml_L_91 h6_ zk_0 rfl rfl (by decide) (Nat.le_of_ble_eq_true rfl) dL_law_746 (fun N_ hN_ => ?_)
  obtain ⟨P2_, h8_, h9_⟩ := h7_ N_ hN_
  refine z_aload_2 dL_law_749 ?_
  refine z_rVI yv_X7_drift ml_L_94 h8_ zk_75 rfl rfl (by decide) (Nat.le_of_ble_eq_true rfl) dL_law_750 (fun K_ hK_ => ?_)
  exact z_sameI (tgt := 1445) dL_law_753 (by decide) (k K_ (h9_ K_ hK_))
theorem lc_says {F : zF} {n : Nat} {S : Nat → Int} {M : zM} {i : Int} (hF : zScr F n S) (hn : n < 2 ^ 31) (hR : ∀ j, -2147483648 ≤ S j ∧ S j < 2147483648) (hi : 0 ≤ i ∧ i + 6 ≤ n) (hS : Sim M) (k : ∀ K, SimN M K → Z RL cL_law 4 (some .boolean) 40 F 1445 [some (vR 96), some (vR 0), some (vR 75), some (vI i)] [] K) : Z RL cL_law 4 (some .boolean) 40 F 758 [some (vR 96), some (vR 0), some (vR 75), some (vI i)] [] M := by
  refine z_aload_1 dL_law_758 ?_
  refine z_aload_0 dL_law_759 ?_
  refine z_iload_3 dL_law_760 ?_
  refine z_iconst dL_law_761 ?_
  refine z_iadd dL_law_762 ?_
  refine z_scrl hF hn (by omega) dL_law_763 ?_
  obtain ⟨v_, P_, h6_, h7_⟩ := s_says hS (hR _)
  refine z_rVI yv_X6_says ml_L_95 h6_ zk_0 rfl rfl (by decide) (Nat.le_of_ble_eq_true rfl) dL_law_764 (fun N_ hN_ => ?_)
  obtain ⟨P2_, h8_, h9_⟩ := h7_ N_ hN_
  refine z_aload_2 dL_law_767 ?_
  refine z_aload_0 dL_law_768 ?_
  refine z_iload_3 dL_law_769 ?_
  refine z_iconst dL_law_770 ?_
  refine z_iadd dL_law_771 ?_
  refine z_scrl hF hn (by omega) dL_law_772 ?_
  refine z_rVI yv_X7_says ml_L_98 h8_ zk_75 rfl rfl (by decide) (Nat.le_of_ble_eq_true rfl) dL_law_773 (fun K_ hK_ => ?_)
  exact z_sameI (tgt := 1445) dL_law_776 (by decide) (k K_ (h9_ K_ hK_))
