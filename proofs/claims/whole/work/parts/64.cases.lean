/-! The cases of the law -/
theorem q_ring {L : Nat} {xs : Nat → Int32} {i ck sk : Nat} {x y : Option Value} {μ : Mm} (hi : i + 5 ≤ L) (hL : L ≤ 2560) (hk : Cap ck sk) (h : Rel μ) (kk : ∀ (μ' : Mm) (x y : Option Value), Rel μ' → GL L xs (ck + 1) (sk + 6) μ' 1108 (LOC i x y) []) : GL L xs ck sk μ 188 (LOC i x y) [] := by
  obtain ⟨z, μ1, μ2, a, b, ha, hb, h1, h2, h3⟩ := e_ring μ h (xs (i + 1))
  refine l_aload_n 1 _ dL_law_188 rfl rfl ?_
  refine l_arg 1 hi hL (by decide) dL_law_189 dL_law_190 dL_law_192 rfl dL_law_193 dL_law_194 ?_
  refine l_callI h1 mw_X5_ring mi_X5_ring ml_L_19 isO_0 (fitL ha (Nat.le_of_ble_eq_true rfl)) rfl rfl (Nat.le_of_ble_eq_true rfl) hk dL_law_195 ?_
  refine l_aload_n 2 _ dL_law_198 rfl rfl ?_
  refine l_arg 1 hi hL (by decide) dL_law_199 dL_law_200 dL_law_202 rfl dL_law_203 dL_law_204 ?_
  refine l_callI h2 mw_X6_ring mi_X6_ring ml_L_23 isO_33 (fitL hb (Nat.le_of_ble_eq_true rfl)) rfl rfl (Nat.le_of_ble_eq_true rfl) hk dL_law_205 ?_
  exact l_icmp_eq 1108 dL_law_208 (by decide) (fun _ => l_widen (Nat.le_succ _) (Nat.le_add_right _ _) (kk μ2 x y h3)) (fun h9 => absurd rfl h9)
theorem q_sheet {L : Nat} {xs : Nat → Int32} {i ck sk : Nat} {x y : Option Value} {μ : Mm} (hi : i + 5 ≤ L) (hL : L ≤ 2560) (hk : Cap ck sk) (h : Rel μ) (kk : ∀ (μ' : Mm) (x y : Option Value), Rel μ' → GL L xs (ck + 1) (sk + 6) μ' 1108 (LOC i x y) []) : GL L xs ck sk μ 213 (LOC i x y) [] := by
  obtain ⟨z, μ1, μ2, a, b, ha, hb, h1, h2, h3⟩ := e_sheet μ h (xs (i + 1)) (xs (i + 2))
  refine l_aload_n 1 _ dL_law_213 rfl rfl ?_
  refine l_arg 1 hi hL (by decide) dL_law_214 dL_law_215 dL_law_217 rfl dL_law_218 dL_law_219 ?_
  refine l_arg 2 hi hL (by decide) dL_law_220 dL_law_221 dL_law_223 rfl dL_law_224 dL_law_225 ?_
  refine l_callI h1 mw_X5_sheet mi_X5_sheet ml_L_24 isO_0 (fitL ha (Nat.le_of_ble_eq_true rfl)) rfl rfl (Nat.le_of_ble_eq_true rfl) hk dL_law_226 ?_
  refine l_aload_n 2 _ dL_law_229 rfl rfl ?_
  refine l_arg 1 hi hL (by decide) dL_law_230 dL_law_231 dL_law_233 rfl dL_law_234 dL_law_235 ?_
  refine l_arg 2 hi hL (by decide) dL_law_236 dL_law_237 dL_law_239 rfl dL_law_240 dL_law_241 ?_
  refine l_callI h2 mw_X6_sheet mi_X6_sheet ml_L_27 isO_33 (fitL hb (Nat.le_of_ble_eq_true rfl)) rfl rfl (Nat.le_of_ble_eq_true rfl) hk dL_law_242 ?_
  exact l_icmp_eq 1108 dL_law_245 (by decide) (fun _ => l_widen (Nat.le_succ _) (Nat.le_add_right _ _) (kk μ2 x y h3)) (fun h9 => absurd rfl h9)
theorem q_entry {L : Nat} {xs : Nat → Int32} {i ck sk : Nat} {x y : Option Value} {μ : Mm} (hi : i + 5 ≤ L) (hL : L ≤ 2560) (hk : Cap ck sk) (h : Rel μ) (kk : ∀ (μ' : Mm) (x y : Option Value), Rel μ' → GL L xs (ck + 1) (sk + 6) μ' 1108 (LOC i x y) []) : GL L xs ck sk μ 250 (LOC i x y) [] := by
  obtain ⟨z, μ1, μ2, a, b, ha, hb, h1, h2, h3⟩ := e_entry μ h (xs (i + 1)) (xs (i + 2))
  refine l_aload_n 1 _ dL_law_250 rfl rfl ?_
  refine l_arg 1 hi hL (by decide) dL_law_251 dL_law_252 dL_law_254 rfl dL_law_255 dL_law_256 ?_
  refine l_arg 2 hi hL (by decide) dL_law_257 dL_law_258 dL_law_260 rfl dL_law_261 dL_law_262 ?_
  refine l_callI h1 mw_X5_entry mi_X5_entry ml_L_28 isO_0 (fitL ha (Nat.le_of_ble_eq_true rfl)) rfl rfl (Nat.le_of_ble_eq_true rfl) hk dL_law_263 ?_
  refine l_aload_n 2 _ dL_law_266 rfl rfl ?_
  refine l_arg 1 hi hL (by decide) dL_law_267 dL_law_268 dL_law_270 rfl dL_law_271 dL_law_272 ?_
  refine l_arg 2 hi hL (by decide) dL_law_273 dL_law_274 dL_law_276 rfl dL_law_277 dL_law_278 ?_
  refine l_callI h2 mw_X6_entry mi_X6_entry ml_L_32 isO_33 (fitL hb (Nat.le_of_ble_eq_true rfl)) rfl rfl (Nat.le_of_ble_eq_true rfl) hk dL_law_279 ?_
  exact l_icmp_eq 1108 dL_law_282 (by decide) (fun _ => l_widen (Nat.le_succ _) (Nat.le_add_right _ _) (kk μ2 x y h3)) (fun h9 => absurd rfl h9)
theorem q_lay {L : Nat} {xs : Nat → Int32} {i ck sk : Nat} {x y : Option Value} {μ : Mm} (hi : i + 5 ≤ L) (hL : L ≤ 2560) (hk : Cap ck sk) (h : Rel μ) (kk : ∀ (μ' : Mm) (x y : Option Value), Rel μ' → GL L xs (ck + 1) (sk + 6) μ' 1108 (LOC i x y) []) : GL L xs ck sk μ 287 (LOC i x y) [] := by
  obtain ⟨z, μ1, μ2, a, b, ha, hb, h1, h2, h3⟩ := e_lay μ h (xs (i + 1))
  refine l_aload_n 1 _ dL_law_287 rfl rfl ?_
  refine l_arg 1 hi hL (by decide) dL_law_288 dL_law_289 dL_law_291 rfl dL_law_292 dL_law_293 ?_
  refine l_callI h1 mw_X5_lay mi_X5_lay ml_L_33 isO_0 (fitL ha (Nat.le_of_ble_eq_true rfl)) rfl rfl (Nat.le_of_ble_eq_true rfl) hk dL_law_294 ?_
  refine l_aload_n 2 _ dL_law_297 rfl rfl ?_
  refine l_arg 1 hi hL (by decide) dL_law_298 dL_law_299 dL_law_301 rfl dL_law_302 dL_law_303 ?_
  refine l_callI h2 mw_X6_lay mi_X6_lay ml_L_36 isO_33 (fitL hb (Nat.le_of_ble_eq_true rfl)) rfl rfl (Nat.le_of_ble_eq_true rfl) hk dL_law_304 ?_
  exact l_icmp_eq 1108 dL_law_307 (by decide) (fun _ => l_widen (Nat.le_succ _) (Nat.le_add_right _ _) (kk μ2 x y h3)) (fun h9 => absurd rfl h9)
theorem q_set {L : Nat} {xs : Nat → Int32} {i ck sk : Nat} {x y : Option Value} {μ : Mm} (hi : i + 5 ≤ L) (hL : L ≤ 2560) (hk : Cap ck sk) (h : Rel μ) (kk : ∀ (μ' : Mm) (x y : Option Value), Rel μ' → GL L xs (ck + 1) (sk + 6) μ' 1108 (LOC i x y) []) : GL L xs ck sk μ 312 (LOC i x y) [] := by
  obtain ⟨z, μ1, μ2, a, b, ha, hb, h1, h2, h3⟩ := e_set μ h (xs (i + 1)) (xs (i + 2)) (xs (i + 3))
  refine l_aload_n 1 _ dL_law_312 rfl rfl ?_
  refine l_arg 1 hi hL (by decide) dL_law_313 dL_law_314 dL_law_316 rfl dL_law_317 dL_law_318 ?_
  refine l_arg 2 hi hL (by decide) dL_law_319 dL_law_320 dL_law_322 rfl dL_law_323 dL_law_324 ?_
  refine l_arg 3 hi hL (by decide) dL_law_325 dL_law_326 dL_law_328 rfl dL_law_329 dL_law_330 ?_
  refine l_callI h1 mw_X5_set mi_X5_set ml_L_37 isO_0 (fitL ha (Nat.le_of_ble_eq_true rfl)) rfl rfl (Nat.le_of_ble_eq_true rfl) hk dL_law_331 ?_
  refine l_aload_n 2 _ dL_law_334 rfl rfl ?_
  refine l_arg 1 hi hL (by decide) dL_law_335 dL_law_336 dL_law_338 rfl dL_law_339 dL_law_340 ?_
  refine l_arg 2 hi hL (by decide) dL_law_341 dL_law_342 dL_law_344 rfl dL_law_345 dL_law_346 ?_
  refine l_arg 3 hi hL (by decide) dL_law_347 dL_law_348 dL_law_350 rfl dL_law_351 dL_law_352 ?_
  refine l_callI h2 mw_X6_set mi_X6_set ml_L_41 isO_33 (fitL hb (Nat.le_of_ble_eq_true rfl)) rfl rfl (Nat.le_of_ble_eq_true rfl) hk dL_law_353 ?_
  exact l_icmp_eq 1108 dL_law_356 (by decide) (fun _ => l_widen (Nat.le_succ _) (Nat.le_add_right _ _) (kk μ2 x y h3)) (fun h9 => absurd rfl h9)
theorem q_miss {L : Nat} {xs : Nat → Int32} {i ck sk : Nat} {x y : Option Value} {μ : Mm} (hi : i + 5 ≤ L) (hL : L ≤ 2560) (hk : Cap ck sk) (h : Rel μ) (kk : ∀ (μ' : Mm) (x y : Option Value), Rel μ' → GL L xs (ck + 1) (sk + 6) μ' 1108 (LOC i x y) []) : GL L xs ck sk μ 361 (LOC i x y) [] := by
  obtain ⟨z, μ1, μ2, a, b, ha, hb, h1, h2, h3⟩ := e_miss μ h (xs (i + 1))
  refine l_aload_n 1 _ dL_law_361 rfl rfl ?_
  refine l_arg 1 hi hL (by decide) dL_law_362 dL_law_363 dL_law_365 rfl dL_law_366 dL_law_367 ?_
  refine l_callI h1 mw_X5_miss mi_X5_miss ml_L_42 isO_0 (fitL ha (Nat.le_of_ble_eq_true rfl)) rfl rfl (Nat.le_of_ble_eq_true rfl) hk dL_law_368 ?_
  refine l_aload_n 2 _ dL_law_371 rfl rfl ?_
  refine l_arg 1 hi hL (by decide) dL_law_372 dL_law_373 dL_law_375 rfl dL_law_376 dL_law_377 ?_
  refine l_callI h2 mw_X6_miss mi_X6_miss ml_L_45 isO_33 (fitL hb (Nat.le_of_ble_eq_true rfl)) rfl rfl (Nat.le_of_ble_eq_true rfl) hk dL_law_378 ?_
  exact l_icmp_eq 1108 dL_law_381 (by decide) (fun _ => l_widen (Nat.le_succ _) (Nat.le_add_right _ _) (kk μ2 x y h3)) (fun h9 => absurd rfl h9)
theorem q_count {L : Nat} {xs : Nat → Int32} {i ck sk : Nat} {x y : Option Value} {μ : Mm} (hi : i + 5 ≤ L) (hL : L ≤ 2560) (hk : Cap ck sk) (h : Rel μ) (kk : ∀ (μ' : Mm) (x y : Option Value), Rel μ' → GL L xs (ck + 1) (sk + 6) μ' 1108 (LOC i x y) []) : GL L xs ck sk μ 454 (LOC i x y) [] := by
  obtain ⟨z, μ1, μ2, a, b, ha, hb, h1, h2, h3⟩ := e_count μ h (xs (i + 1))
  refine l_aload_n 1 _ dL_law_454 rfl rfl ?_
  refine l_arg 1 hi hL (by decide) dL_law_455 dL_law_456 dL_law_458 rfl dL_law_459 dL_law_460 ?_
  refine l_callI h1 mw_X5_count mi_X5_count ml_L_56 isO_0 (fitL ha (Nat.le_of_ble_eq_true rfl)) rfl rfl (Nat.le_of_ble_eq_true rfl) hk dL_law_461 ?_
  refine l_aload_n 2 _ dL_law_464 rfl rfl ?_
  refine l_arg 1 hi hL (by decide) dL_law_465 dL_law_466 dL_law_468 rfl dL_law_469 dL_law_470 ?_
  refine l_callI h2 mw_X6_count mi_X6_count ml_L_60 isO_33 (fitL hb (Nat.le_of_ble_eq_true rfl)) rfl rfl (Nat.le_of_ble_eq_true rfl) hk dL_law_471 ?_
  exact l_icmp_eq 1108 dL_law_474 (by decide) (fun _ => l_widen (Nat.le_succ _) (Nat.le_add_right _ _) (kk μ2 x y h3)) (fun h9 => absurd rfl h9)
theorem q_shadow {L : Nat} {xs : Nat → Int32} {i ck sk : Nat} {x y : Option Value} {μ : Mm} (hi : i + 5 ≤ L) (hL : L ≤ 2560) (hk : Cap ck sk) (h : Rel μ) (kk : ∀ (μ' : Mm) (x y : Option Value), Rel μ' → GL L xs (ck + 1) (sk + 6) μ' 1108 (LOC i x y) []) : GL L xs ck sk μ 479 (LOC i x y) [] := by
  obtain ⟨z, μ1, μ2, a, b, ha, hb, h1, h2, h3⟩ := e_shadow μ h (xs (i + 1))
  refine l_aload_n 1 _ dL_law_479 rfl rfl ?_
  refine l_arg 1 hi hL (by decide) dL_law_480 dL_law_481 dL_law_483 rfl dL_law_484 dL_law_485 ?_
  refine l_callI h1 mw_X5_shadow mi_X5_shadow ml_L_61 isO_0 (fitL ha (Nat.le_of_ble_eq_true rfl)) rfl rfl (Nat.le_of_ble_eq_true rfl) hk dL_law_486 ?_
  refine l_aload_n 2 _ dL_law_489 rfl rfl ?_
  refine l_arg 1 hi hL (by decide) dL_law_490 dL_law_491 dL_law_493 rfl dL_law_494 dL_law_495 ?_
  refine l_callI h2 mw_X6_shadow mi_X6_shadow ml_L_64 isO_33 (fitL hb (Nat.le_of_ble_eq_true rfl)) rfl rfl (Nat.le_of_ble_eq_true rfl) hk dL_law_496 ?_
  exact l_icmp_eq 1108 dL_law_499 (by decide) (fun _ => l_widen (Nat.le_succ _) (Nat.le_add_right _ _) (kk μ2 x y h3)) (fun h9 => absurd rfl h9)
theorem q_cast {L : Nat} {xs : Nat → Int32} {i ck sk : Nat} {x y : Option Value} {μ : Mm} (hi : i + 5 ≤ L) (hL : L ≤ 2560) (hk : Cap ck sk) (h : Rel μ) (kk : ∀ (μ' : Mm) (x y : Option Value), Rel μ' → GL L xs (ck + 1) (sk + 6) μ' 1108 (LOC i x y) []) : GL L xs ck sk μ 504 (LOC i x y) [] := by
  obtain ⟨z, μ1, μ2, a, b, ha, hb, h1, h2, h3⟩ := e_cast μ h 
  refine l_aload_n 1 _ dL_law_504 rfl rfl ?_
  refine l_callI h1 mw_X5_cast mi_X5_cast ml_L_65 isO_0 (fitL ha (Nat.le_of_ble_eq_true rfl)) rfl rfl (Nat.le_of_ble_eq_true rfl) hk dL_law_505 ?_
  refine l_aload_n 2 _ dL_law_508 rfl rfl ?_
  refine l_callI h2 mw_X6_cast mi_X6_cast ml_L_69 isO_33 (fitL hb (Nat.le_of_ble_eq_true rfl)) rfl rfl (Nat.le_of_ble_eq_true rfl) hk dL_law_509 ?_
  exact l_icmp_eq 1108 dL_law_512 (by decide) (fun _ => l_widen (Nat.le_succ _) (Nat.le_add_right _ _) (kk μ2 x y h3)) (fun h9 => absurd rfl h9)
theorem q_meets {L : Nat} {xs : Nat → Int32} {i ck sk : Nat} {x y : Option Value} {μ : Mm} (hi : i + 5 ≤ L) (hL : L ≤ 2560) (hk : Cap ck sk) (h : Rel μ) (kk : ∀ (μ' : Mm) (x y : Option Value), Rel μ' → GL L xs (ck + 1) (sk + 6) μ' 1108 (LOC i x y) []) : GL L xs ck sk μ 517 (LOC i x y) [] := by
  obtain ⟨z, μ1, μ2, a, b, ha, hb, h1, h2, h3⟩ := e_meets μ h (xs (i + 1))
  refine l_aload_n 1 _ dL_law_517 rfl rfl ?_
  refine l_arg 1 hi hL (by decide) dL_law_518 dL_law_519 dL_law_521 rfl dL_law_522 dL_law_523 ?_
  refine l_callI h1 mw_X5_meets mi_X5_meets ml_L_70 isO_0 (fitL ha (Nat.le_of_ble_eq_true rfl)) rfl rfl (Nat.le_of_ble_eq_true rfl) hk dL_law_524 ?_
  refine l_aload_n 2 _ dL_law_527 rfl rfl ?_
  refine l_arg 1 hi hL (by decide) dL_law_528 dL_law_529 dL_law_531 rfl dL_law_532 dL_law_533 ?_
  refine l_callI h2 mw_X6_meets mi_X6_meets ml_L_73 isO_33 (fitL hb (Nat.le_of_ble_eq_true rfl)) rfl rfl (Nat.le_of_ble_eq_true rfl) hk dL_law_534 ?_
  exact l_icmp_eq 1108 dL_law_537 (by decide) (fun _ => l_widen (Nat.le_succ _) (Nat.le_add_right _ _) (kk μ2 x y h3)) (fun h9 => absurd rfl h9)
theorem q_off {L : Nat} {xs : Nat → Int32} {i ck sk : Nat} {x y : Option Value} {μ : Mm} (hi : i + 5 ≤ L) (hL : L ≤ 2560) (hk : Cap ck sk) (h : Rel μ) (kk : ∀ (μ' : Mm) (x y : Option Value), Rel μ' → GL L xs (ck + 1) (sk + 6) μ' 1108 (LOC i x y) []) : GL L xs ck sk μ 542 (LOC i x y) [] := by
  obtain ⟨z, μ1, μ2, a, b, ha, hb, h1, h2, h3⟩ := e_off μ h 
  refine l_aload_n 1 _ dL_law_542 rfl rfl ?_
  refine l_callI h1 mw_X5_off mi_X5_off ml_L_74 isO_0 (fitL ha (Nat.le_of_ble_eq_true rfl)) rfl rfl (Nat.le_of_ble_eq_true rfl) hk dL_law_543 ?_
  refine l_aload_n 2 _ dL_law_546 rfl rfl ?_
  refine l_callI h2 mw_X6_off mi_X6_off ml_L_77 isO_33 (fitL hb (Nat.le_of_ble_eq_true rfl)) rfl rfl (Nat.le_of_ble_eq_true rfl) hk dL_law_547 ?_
  exact l_icmp_eq 1108 dL_law_550 (by decide) (fun _ => l_widen (Nat.le_succ _) (Nat.le_add_right _ _) (kk μ2 x y h3)) (fun h9 => absurd rfl h9)
theorem q_turn {L : Nat} {xs : Nat → Int32} {i ck sk : Nat} {x y : Option Value} {μ : Mm} (hi : i + 5 ≤ L) (hL : L ≤ 2560) (hk : Cap ck sk) (h : Rel μ) (kk : ∀ (μ' : Mm) (x y : Option Value), Rel μ' → GL L xs (ck + 1) (sk + 6) μ' 1108 (LOC i x y) []) : GL L xs ck sk μ 555 (LOC i x y) [] := by
  obtain ⟨z, μ1, μ2, a, b, ha, hb, h1, h2, h3⟩ := e_turn μ h (xs (i + 1))
  refine l_aload_n 1 _ dL_law_555 rfl rfl ?_
  refine l_arg 1 hi hL (by decide) dL_law_556 dL_law_557 dL_law_559 rfl dL_law_560 dL_law_561 ?_
  refine l_callI h1 mw_X5_turn mi_X5_turn ml_L_78 isO_0 (fitL ha (Nat.le_of_ble_eq_true rfl)) rfl rfl (Nat.le_of_ble_eq_true rfl) hk dL_law_562 ?_
  refine l_aload_n 2 _ dL_law_565 rfl rfl ?_
  refine l_arg 1 hi hL (by decide) dL_law_566 dL_law_567 dL_law_569 rfl dL_law_570 dL_law_571 ?_
  refine l_callI h2 mw_X6_turn mi_X6_turn ml_L_81 isO_33 (fitL hb (Nat.le_of_ble_eq_true rfl)) rfl rfl (Nat.le_of_ble_eq_true rfl) hk dL_law_572 ?_
  exact l_icmp_eq 1108 dL_law_575 (by decide) (fun _ => l_widen (Nat.le_succ _) (Nat.le_add_right _ _) (kk μ2 x y h3)) (fun h9 => absurd rfl h9)
theorem q_anti {L : Nat} {xs : Nat → Int32} {i ck sk : Nat} {x y : Option Value} {μ : Mm} (hi : i + 5 ≤ L) (hL : L ≤ 2560) (hk : Cap ck sk) (h : Rel μ) (kk : ∀ (μ' : Mm) (x y : Option Value), Rel μ' → GL L xs (ck + 1) (sk + 6) μ' 1108 (LOC i x y) []) : GL L xs ck sk μ 580 (LOC i x y) [] := by
  obtain ⟨z, μ1, μ2, a, b, ha, hb, h1, h2, h3⟩ := e_anti μ h 
  refine l_aload_n 1 _ dL_law_580 rfl rfl ?_
  refine l_callI h1 mw_X5_anti mi_X5_anti ml_L_82 isO_0 (fitL ha (Nat.le_of_ble_eq_true rfl)) rfl rfl (Nat.le_of_ble_eq_true rfl) hk dL_law_581 ?_
  refine l_aload_n 2 _ dL_law_584 rfl rfl ?_
  refine l_callI h2 mw_X6_anti mi_X6_anti ml_L_85 isO_33 (fitL hb (Nat.le_of_ble_eq_true rfl)) rfl rfl (Nat.le_of_ble_eq_true rfl) hk dL_law_585 ?_
  exact l_icmp_eq 1108 dL_law_588 (by decide) (fun _ => l_widen (Nat.le_succ _) (Nat.le_add_right _ _) (kk μ2 x y h3)) (fun h9 => absurd rfl h9)
theorem q_fold {L : Nat} {xs : Nat → Int32} {i ck sk : Nat} {x y : Option Value} {μ : Mm} (hi : i + 5 ≤ L) (hL : L ≤ 2560) (hk : Cap ck sk) (h : Rel μ) (kk : ∀ (μ' : Mm) (x y : Option Value), Rel μ' → GL L xs (ck + 1) (sk + 6) μ' 1108 (LOC i x y) []) : GL L xs ck sk μ 593 (LOC i x y) [] := by
  obtain ⟨z, μ1, μ2, a, b, ha, hb, h1, h2, h3⟩ := e_fold μ h (xs (i + 1)) (xs (i + 2)) (xs (i + 3)) (xs (i + 4))
  refine l_aload_n 1 _ dL_law_593 rfl rfl ?_
  refine l_arg 1 hi hL (by decide) dL_law_594 dL_law_595 dL_law_597 rfl dL_law_598 dL_law_599 ?_
  refine l_arg 2 hi hL (by decide) dL_law_600 dL_law_601 dL_law_603 rfl dL_law_604 dL_law_605 ?_
  refine l_arg 3 hi hL (by decide) dL_law_606 dL_law_607 dL_law_609 rfl dL_law_610 dL_law_611 ?_
  refine l_arg 4 hi hL (by decide) dL_law_612 dL_law_613 dL_law_615 rfl dL_law_616 dL_law_617 ?_
  refine l_callI h1 mw_X5_fold mi_X5_fold ml_L_86 isO_0 (fitL ha (Nat.le_of_ble_eq_true rfl)) rfl rfl (Nat.le_of_ble_eq_true rfl) hk dL_law_618 ?_
  refine l_aload_n 2 _ dL_law_621 rfl rfl ?_
  refine l_arg 1 hi hL (by decide) dL_law_622 dL_law_623 dL_law_625 rfl dL_law_626 dL_law_627 ?_
  refine l_arg 2 hi hL (by decide) dL_law_628 dL_law_629 dL_law_631 rfl dL_law_632 dL_law_633 ?_
  refine l_arg 3 hi hL (by decide) dL_law_634 dL_law_635 dL_law_637 rfl dL_law_638 dL_law_639 ?_
  refine l_arg 4 hi hL (by decide) dL_law_640 dL_law_641 dL_law_643 rfl dL_law_644 dL_law_645 ?_
  refine l_callI h2 mw_X6_fold mi_X6_fold ml_L_90 isO_33 (fitL hb (Nat.le_of_ble_eq_true rfl)) rfl rfl (Nat.le_of_ble_eq_true rfl) hk dL_law_646 ?_
  exact l_icmp_eq 1108 dL_law_649 (by decide) (fun _ => l_widen (Nat.le_succ _) (Nat.le_add_right _ _) (kk μ2 x y h3)) (fun h9 => absurd rfl h9)
theorem q_rests {L : Nat} {xs : Nat → Int32} {i ck sk : Nat} {x y : Option Value} {μ : Mm} (hi : i + 5 ≤ L) (hL : L ≤ 2560) (hk : Cap ck sk) (h : Rel μ) (kk : ∀ (μ' : Mm) (x y : Option Value), Rel μ' → GL L xs (ck + 1) (sk + 6) μ' 1108 (LOC i x y) []) : GL L xs ck sk μ 654 (LOC i x y) [] := by
  obtain ⟨z, μ1, μ2, a, b, ha, hb, h1, h2, h3⟩ := e_rests μ h (xs (i + 1))
  refine l_aload_n 1 _ dL_law_654 rfl rfl ?_
  refine l_arg 1 hi hL (by decide) dL_law_655 dL_law_656 dL_law_658 rfl dL_law_659 dL_law_660 ?_
  refine l_callI h1 mw_X5_rests mi_X5_rests ml_L_91 isO_0 (fitL ha (Nat.le_of_ble_eq_true rfl)) rfl rfl (Nat.le_of_ble_eq_true rfl) hk dL_law_661 ?_
  refine l_aload_n 2 _ dL_law_664 rfl rfl ?_
  refine l_arg 1 hi hL (by decide) dL_law_665 dL_law_666 dL_law_668 rfl dL_law_669 dL_law_670 ?_
  refine l_callI h2 mw_X6_rests mi_X6_rests ml_L_94 isO_33 (fitL hb (Nat.le_of_ble_eq_true rfl)) rfl rfl (Nat.le_of_ble_eq_true rfl) hk dL_law_671 ?_
  exact l_icmp_eq 1108 dL_law_674 (by decide) (fun _ => l_widen (Nat.le_succ _) (Nat.le_add_right _ _) (kk μ2 x y h3)) (fun h9 => absurd rfl h9)
theorem q_twins {L : Nat} {xs : Nat → Int32} {i ck sk : Nat} {x y : Option Value} {μ : Mm} (hi : i + 5 ≤ L) (hL : L ≤ 2560) (hk : Cap ck sk) (h : Rel μ) (kk : ∀ (μ' : Mm) (x y : Option Value), Rel μ' → GL L xs (ck + 1) (sk + 6) μ' 1108 (LOC i x y) []) : GL L xs ck sk μ 679 (LOC i x y) [] := by
  obtain ⟨z, μ1, μ2, a, b, ha, hb, h1, h2, h3⟩ := e_twins μ h (xs (i + 1))
  refine l_aload_n 1 _ dL_law_679 rfl rfl ?_
  refine l_arg 1 hi hL (by decide) dL_law_680 dL_law_681 dL_law_683 rfl dL_law_684 dL_law_685 ?_
  refine l_callI h1 mw_X5_twins mi_X5_twins ml_L_95 isO_0 (fitL ha (Nat.le_of_ble_eq_true rfl)) rfl rfl (Nat.le_of_ble_eq_true rfl) hk dL_law_686 ?_
  refine l_aload_n 2 _ dL_law_689 rfl rfl ?_
  refine l_arg 1 hi hL (by decide) dL_law_690 dL_law_691 dL_law_693 rfl dL_law_694 dL_law_695 ?_
  refine l_callI h2 mw_X6_twins mi_X6_twins ml_L_98 isO_33 (fitL hb (Nat.le_of_ble_eq_true rfl)) rfl rfl (Nat.le_of_ble_eq_true rfl) hk dL_law_696 ?_
  exact l_icmp_eq 1108 dL_law_699 (by decide) (fun _ => l_widen (Nat.le_succ _) (Nat.le_add_right _ _) (kk μ2 x y h3)) (fun h9 => absurd rfl h9)
theorem q_shift {L : Nat} {xs : Nat → Int32} {i ck sk : Nat} {x y : Option Value} {μ : Mm} (hi : i + 5 ≤ L) (hL : L ≤ 2560) (hk : Cap ck sk) (h : Rel μ) (kk : ∀ (μ' : Mm) (x y : Option Value), Rel μ' → GL L xs (ck + 1) (sk + 6) μ' 1108 (LOC i x y) []) : GL L xs ck sk μ 704 (LOC i x y) [] := by
  obtain ⟨z, μ1, μ2, a, b, ha, hb, h1, h2, h3⟩ := e_shift μ h (xs (i + 1))
  refine l_aload_n 1 _ dL_law_704 rfl rfl ?_
  refine l_arg 1 hi hL (by decide) dL_law_705 dL_law_706 dL_law_708 rfl dL_law_709 dL_law_710 ?_
  refine l_callI h1 mw_X5_shift mi_X5_shift ml_L_99 isO_0 (fitL ha (Nat.le_of_ble_eq_true rfl)) rfl rfl (Nat.le_of_ble_eq_true rfl) hk dL_law_711 ?_
  refine l_aload_n 2 _ dL_law_714 rfl rfl ?_
  refine l_arg 1 hi hL (by decide) dL_law_715 dL_law_716 dL_law_718 rfl dL_law_719 dL_law_720 ?_
  refine l_callI h2 mw_X6_shift mi_X6_shift ml_L_102 isO_33 (fitL hb (Nat.le_of_ble_eq_true rfl)) rfl rfl (Nat.le_of_ble_eq_true rfl) hk dL_law_721 ?_
  exact l_icmp_eq 1108 dL_law_724 (by decide) (fun _ => l_widen (Nat.le_succ _) (Nat.le_add_right _ _) (kk μ2 x y h3)) (fun h9 => absurd rfl h9)
theorem q_undo {L : Nat} {xs : Nat → Int32} {i ck sk : Nat} {x y : Option Value} {μ : Mm} (hi : i + 5 ≤ L) (hL : L ≤ 2560) (hk : Cap ck sk) (h : Rel μ) (kk : ∀ (μ' : Mm) (x y : Option Value), Rel μ' → GL L xs (ck + 1) (sk + 6) μ' 1108 (LOC i x y) []) : GL L xs ck sk μ 729 (LOC i x y) [] := by
  obtain ⟨z, μ1, μ2, a, b, ha, hb, h1, h2, h3⟩ := e_undo μ h 
  refine l_aload_n 1 _ dL_law_729 rfl rfl ?_
  refine l_callL h1 mw_X5_undo mi_X5_undo ml_L_103 isO_0 (fitL ha (Nat.le_of_ble_eq_true rfl)) rfl rfl (Nat.le_of_ble_eq_true rfl) hk dL_law_730 ?_
  refine l_aload_n 2 _ dL_law_733 rfl rfl ?_
  refine l_callL h2 mw_X6_undo mi_X6_undo ml_L_107 isO_33 (fitL hb (Nat.le_of_ble_eq_true rfl)) rfl rfl (Nat.le_of_ble_eq_true rfl) hk dL_law_734 ?_
  refine l_lcmp dL_law_737 ?_
  exact l_if_eq 1108 dL_law_738 (by decide) (fun _ => l_widen (Nat.le_succ _) (Nat.le_add_right _ _) (kk μ2 x y h3)) (fun h9 => absurd ((cmp_eq _ _).mpr rfl) h9)
theorem q_back {L : Nat} {xs : Nat → Int32} {i ck sk : Nat} {x y : Option Value} {μ : Mm} (hi : i + 5 ≤ L) (hL : L ≤ 2560) (hk : Cap ck sk) (h : Rel μ) (kk : ∀ (μ' : Mm) (x y : Option Value), Rel μ' → GL L xs (ck + 1) (sk + 6) μ' 1108 (LOC i x y) []) : GL L xs ck sk μ 743 (LOC i x y) [] := by
  obtain ⟨z, μ1, μ2, a, b, ha, hb, h1, h2, h3⟩ := e_back μ h (xs (i + 1))
  refine l_aload_n 1 _ dL_law_743 rfl rfl ?_
  refine l_arg 1 hi hL (by decide) dL_law_744 dL_law_745 dL_law_747 rfl dL_law_748 dL_law_749 ?_
  refine l_callL h1 mw_X5_back mi_X5_back ml_L_108 isO_0 (fitL ha (Nat.le_of_ble_eq_true rfl)) rfl rfl (Nat.le_of_ble_eq_true rfl) hk dL_law_750 ?_
  refine l_aload_n 2 _ dL_law_753 rfl rfl ?_
  refine l_arg 1 hi hL (by decide) dL_law_754 dL_law_755 dL_law_757 rfl dL_law_758 dL_law_759 ?_
  refine l_callL h2 mw_X6_back mi_X6_back ml_L_112 isO_33 (fitL hb (Nat.le_of_ble_eq_true rfl)) rfl rfl (Nat.le_of_ble_eq_true rfl) hk dL_law_760 ?_
  refine l_lcmp dL_law_763 ?_
  exact l_if_eq 1108 dL_law_764 (by decide) (fun _ => l_widen (Nat.le_succ _) (Nat.le_add_right _ _) (kk μ2 x y h3)) (fun h9 => absurd ((cmp_eq _ _).mpr rfl) h9)
theorem q_noise {L : Nat} {xs : Nat → Int32} {i ck sk : Nat} {x y : Option Value} {μ : Mm} (hi : i + 5 ≤ L) (hL : L ≤ 2560) (hk : Cap ck sk) (h : Rel μ) (kk : ∀ (μ' : Mm) (x y : Option Value), Rel μ' → GL L xs (ck + 1) (sk + 6) μ' 1108 (LOC i x y) []) : GL L xs ck sk μ 769 (LOC i x y) [] := by
  obtain ⟨z, μ1, μ2, a, b, ha, hb, h1, h2, h3⟩ := e_noise μ h (xs (i + 1))
  refine l_aload_n 1 _ dL_law_769 rfl rfl ?_
  refine l_arg 1 hi hL (by decide) dL_law_770 dL_law_771 dL_law_773 rfl dL_law_774 dL_law_775 ?_
  refine l_callL h1 mw_X5_noise mi_X5_noise ml_L_113 isO_0 (fitL ha (Nat.le_of_ble_eq_true rfl)) rfl rfl (Nat.le_of_ble_eq_true rfl) hk dL_law_776 ?_
  refine l_aload_n 2 _ dL_law_779 rfl rfl ?_
  refine l_arg 1 hi hL (by decide) dL_law_780 dL_law_781 dL_law_783 rfl dL_law_784 dL_law_785 ?_
  refine l_callL h2 mw_X6_noise mi_X6_noise ml_L_116 isO_33 (fitL hb (Nat.le_of_ble_eq_true rfl)) rfl rfl (Nat.le_of_ble_eq_true rfl) hk dL_law_786 ?_
  refine l_lcmp dL_law_789 ?_
  exact l_if_eq 1108 dL_law_790 (by decide) (fun _ => l_widen (Nat.le_succ _) (Nat.le_add_right _ _) (kk μ2 x y h3)) (fun h9 => absurd ((cmp_eq _ _).mpr rfl) h9)
theorem q_rank {L : Nat} {xs : Nat → Int32} {i ck sk : Nat} {x y : Option Value} {μ : Mm} (hi : i + 5 ≤ L) (hL : L ≤ 2560) (hk : Cap ck sk) (h : Rel μ) (kk : ∀ (μ' : Mm) (x y : Option Value), Rel μ' → GL L xs (ck + 1) (sk + 6) μ' 1108 (LOC i x y) []) : GL L xs ck sk μ 795 (LOC i x y) [] := by
  obtain ⟨z, μ1, μ2, a, b, ha, hb, h1, h2, h3⟩ := e_rank μ h 
  refine l_aload_n 1 _ dL_law_795 rfl rfl ?_
  refine l_callI h1 mw_X5_rank mi_X5_rank ml_L_117 isO_0 (fitL ha (Nat.le_of_ble_eq_true rfl)) rfl rfl (Nat.le_of_ble_eq_true rfl) hk dL_law_796 ?_
  refine l_aload_n 2 _ dL_law_799 rfl rfl ?_
  refine l_callI h2 mw_X6_rank mi_X6_rank ml_L_120 isO_33 (fitL hb (Nat.le_of_ble_eq_true rfl)) rfl rfl (Nat.le_of_ble_eq_true rfl) hk dL_law_800 ?_
  exact l_icmp_eq 1108 dL_law_803 (by decide) (fun _ => l_widen (Nat.le_succ _) (Nat.le_add_right _ _) (kk μ2 x y h3)) (fun h9 => absurd rfl h9)
theorem q_lost {L : Nat} {xs : Nat → Int32} {i ck sk : Nat} {x y : Option Value} {μ : Mm} (hi : i + 5 ≤ L) (hL : L ≤ 2560) (hk : Cap ck sk) (h : Rel μ) (kk : ∀ (μ' : Mm) (x y : Option Value), Rel μ' → GL L xs (ck + 1) (sk + 6) μ' 1108 (LOC i x y) []) : GL L xs ck sk μ 808 (LOC i x y) [] := by
  obtain ⟨z, μ1, μ2, a, b, ha, hb, h1, h2, h3⟩ := e_lost μ h 
  refine l_aload_n 1 _ dL_law_808 rfl rfl ?_
  refine l_callI h1 mw_X5_lost mi_X5_lost ml_L_121 isO_0 (fitL ha (Nat.le_of_ble_eq_true rfl)) rfl rfl (Nat.le_of_ble_eq_true rfl) hk dL_law_809 ?_
  refine l_aload_n 2 _ dL_law_812 rfl rfl ?_
  refine l_callI h2 mw_X6_lost mi_X6_lost ml_L_124 isO_33 (fitL hb (Nat.le_of_ble_eq_true rfl)) rfl rfl (Nat.le_of_ble_eq_true rfl) hk dL_law_813 ?_
  exact l_icmp_eq 1108 dL_law_816 (by decide) (fun _ => l_widen (Nat.le_succ _) (Nat.le_add_right _ _) (kk μ2 x y h3)) (fun h9 => absurd rfl h9)
theorem q_solve {L : Nat} {xs : Nat → Int32} {i ck sk : Nat} {x y : Option Value} {μ : Mm} (hi : i + 5 ≤ L) (hL : L ≤ 2560) (hk : Cap ck sk) (h : Rel μ) (kk : ∀ (μ' : Mm) (x y : Option Value), Rel μ' → GL L xs (ck + 1) (sk + 6) μ' 1108 (LOC i x y) []) : GL L xs ck sk μ 821 (LOC i x y) [] := by
  obtain ⟨z, μ1, μ2, a, b, ha, hb, h1, h2, h3⟩ := e_solve μ h 
  refine l_aload_n 1 _ dL_law_821 rfl rfl ?_
  refine l_callI h1 mw_X5_solve mi_X5_solve ml_L_125 isO_0 (fitL ha (Nat.le_of_ble_eq_true rfl)) rfl rfl (Nat.le_of_ble_eq_true rfl) hk dL_law_822 ?_
  refine l_aload_n 2 _ dL_law_825 rfl rfl ?_
  refine l_callI h2 mw_X6_solve mi_X6_solve ml_L_128 isO_33 (fitL hb (Nat.le_of_ble_eq_true rfl)) rfl rfl (Nat.le_of_ble_eq_true rfl) hk dL_law_826 ?_
  exact l_icmp_eq 1108 dL_law_829 (by decide) (fun _ => l_widen (Nat.le_succ _) (Nat.le_add_right _ _) (kk μ2 x y h3)) (fun h9 => absurd rfl h9)
theorem q_sure {L : Nat} {xs : Nat → Int32} {i ck sk : Nat} {x y : Option Value} {μ : Mm} (hi : i + 5 ≤ L) (hL : L ≤ 2560) (hk : Cap ck sk) (h : Rel μ) (kk : ∀ (μ' : Mm) (x y : Option Value), Rel μ' → GL L xs (ck + 1) (sk + 6) μ' 1108 (LOC i x y) []) : GL L xs ck sk μ 834 (LOC i x y) [] := by
  obtain ⟨z, μ1, μ2, a, b, ha, hb, h1, h2, h3⟩ := e_sure μ h 
  refine l_aload_n 1 _ dL_law_834 rfl rfl ?_
  refine l_callI h1 mw_X5_sure mi_X5_sure ml_L_129 isO_0 (fitL ha (Nat.le_of_ble_eq_true rfl)) rfl rfl (Nat.le_of_ble_eq_true rfl) hk dL_law_835 ?_
  refine l_aload_n 2 _ dL_law_838 rfl rfl ?_
  refine l_callI h2 mw_X6_sure mi_X6_sure ml_L_132 isO_33 (fitL hb (Nat.le_of_ble_eq_true rfl)) rfl rfl (Nat.le_of_ble_eq_true rfl) hk dL_law_839 ?_
  exact l_icmp_eq 1108 dL_law_842 (by decide) (fun _ => l_widen (Nat.le_succ _) (Nat.le_add_right _ _) (kk μ2 x y h3)) (fun h9 => absurd rfl h9)
theorem q_points {L : Nat} {xs : Nat → Int32} {i ck sk : Nat} {x y : Option Value} {μ : Mm} (hi : i + 5 ≤ L) (hL : L ≤ 2560) (hk : Cap ck sk) (h : Rel μ) (kk : ∀ (μ' : Mm) (x y : Option Value), Rel μ' → GL L xs (ck + 1) (sk + 6) μ' 1108 (LOC i x y) []) : GL L xs ck sk μ 847 (LOC i x y) [] := by
  obtain ⟨z, μ1, μ2, a, b, ha, hb, h1, h2, h3⟩ := e_points μ h (xs (i + 1))
  refine l_aload_n 1 _ dL_law_847 rfl rfl ?_
  refine l_arg 1 hi hL (by decide) dL_law_848 dL_law_849 dL_law_851 rfl dL_law_852 dL_law_853 ?_
  refine l_callI h1 mw_X5_points mi_X5_points ml_L_133 isO_0 (fitL ha (Nat.le_of_ble_eq_true rfl)) rfl rfl (Nat.le_of_ble_eq_true rfl) hk dL_law_854 ?_
  refine l_aload_n 2 _ dL_law_857 rfl rfl ?_
  refine l_arg 1 hi hL (by decide) dL_law_858 dL_law_859 dL_law_861 rfl dL_law_862 dL_law_863 ?_
  refine l_callI h2 mw_X6_points mi_X6_points ml_L_136 isO_33 (fitL hb (Nat.le_of_ble_eq_true rfl)) rfl rfl (Nat.le_of_ble_eq_true rfl) hk dL_law_864 ?_
  exact l_icmp_eq 1108 dL_law_867 (by decide) (fun _ => l_widen (Nat.le_succ _) (Nat.le_add_right _ _) (kk μ2 x y h3)) (fun h9 => absurd rfl h9)
theorem q_point {L : Nat} {xs : Nat → Int32} {i ck sk : Nat} {x y : Option Value} {μ : Mm} (hi : i + 5 ≤ L) (hL : L ≤ 2560) (hk : Cap ck sk) (h : Rel μ) (kk : ∀ (μ' : Mm) (x y : Option Value), Rel μ' → GL L xs (ck + 1) (sk + 6) μ' 1108 (LOC i x y) []) : GL L xs ck sk μ 872 (LOC i x y) [] := by
  obtain ⟨z, μ1, μ2, a, b, ha, hb, h1, h2, h3⟩ := e_point μ h (xs (i + 1)) (xs (i + 2))
  refine l_aload_n 1 _ dL_law_872 rfl rfl ?_
  refine l_arg 1 hi hL (by decide) dL_law_873 dL_law_874 dL_law_876 rfl dL_law_877 dL_law_878 ?_
  refine l_arg 2 hi hL (by decide) dL_law_879 dL_law_880 dL_law_882 rfl dL_law_883 dL_law_884 ?_
  refine l_callI h1 mw_X5_point mi_X5_point ml_L_137 isO_0 (fitL ha (Nat.le_of_ble_eq_true rfl)) rfl rfl (Nat.le_of_ble_eq_true rfl) hk dL_law_885 ?_
  refine l_aload_n 2 _ dL_law_888 rfl rfl ?_
  refine l_arg 1 hi hL (by decide) dL_law_889 dL_law_890 dL_law_892 rfl dL_law_893 dL_law_894 ?_
  refine l_arg 2 hi hL (by decide) dL_law_895 dL_law_896 dL_law_898 rfl dL_law_899 dL_law_900 ?_
  refine l_callI h2 mw_X6_point mi_X6_point ml_L_140 isO_33 (fitL hb (Nat.le_of_ble_eq_true rfl)) rfl rfl (Nat.le_of_ble_eq_true rfl) hk dL_law_901 ?_
  exact l_icmp_eq 1108 dL_law_904 (by decide) (fun _ => l_widen (Nat.le_succ _) (Nat.le_add_right _ _) (kk μ2 x y h3)) (fun h9 => absurd rfl h9)
theorem q_table {L : Nat} {xs : Nat → Int32} {i ck sk : Nat} {x y : Option Value} {μ : Mm} (hi : i + 5 ≤ L) (hL : L ≤ 2560) (hk : Cap ck sk) (h : Rel μ) (kk : ∀ (μ' : Mm) (x y : Option Value), Rel μ' → GL L xs (ck + 1) (sk + 6) μ' 1108 (LOC i x y) []) : GL L xs ck sk μ 909 (LOC i x y) [] := by
  obtain ⟨z, μ1, μ2, a, b, ha, hb, h1, h2, h3⟩ := e_table μ h (xs (i + 1)) (xs (i + 2))
  refine l_aload_n 1 _ dL_law_909 rfl rfl ?_
  refine l_arg 1 hi hL (by decide) dL_law_910 dL_law_911 dL_law_913 rfl dL_law_914 dL_law_915 ?_
  refine l_arg 2 hi hL (by decide) dL_law_916 dL_law_917 dL_law_919 rfl dL_law_920 dL_law_921 ?_
  refine l_callI h1 mw_X5_table mi_X5_table ml_L_141 isO_0 (fitL ha (Nat.le_of_ble_eq_true rfl)) rfl rfl (Nat.le_of_ble_eq_true rfl) hk dL_law_922 ?_
  refine l_aload_n 2 _ dL_law_925 rfl rfl ?_
  refine l_arg 1 hi hL (by decide) dL_law_926 dL_law_927 dL_law_929 rfl dL_law_930 dL_law_931 ?_
  refine l_arg 2 hi hL (by decide) dL_law_932 dL_law_933 dL_law_935 rfl dL_law_936 dL_law_937 ?_
  refine l_callI h2 mw_X6_table mi_X6_table ml_L_144 isO_33 (fitL hb (Nat.le_of_ble_eq_true rfl)) rfl rfl (Nat.le_of_ble_eq_true rfl) hk dL_law_938 ?_
  exact l_icmp_eq 1108 dL_law_941 (by decide) (fun _ => l_widen (Nat.le_succ _) (Nat.le_add_right _ _) (kk μ2 x y h3)) (fun h9 => absurd rfl h9)
theorem q_twice {L : Nat} {xs : Nat → Int32} {i ck sk : Nat} {x y : Option Value} {μ : Mm} (hi : i + 5 ≤ L) (hL : L ≤ 2560) (hk : Cap ck sk) (h : Rel μ) (kk : ∀ (μ' : Mm) (x y : Option Value), Rel μ' → GL L xs (ck + 1) (sk + 6) μ' 1108 (LOC i x y) []) : GL L xs ck sk μ 946 (LOC i x y) [] := by
  obtain ⟨z, μ1, μ2, a, b, ha, hb, h1, h2, h3⟩ := e_twice μ h 
  refine l_aload_n 1 _ dL_law_946 rfl rfl ?_
  refine l_callI h1 mw_X5_twice mi_X5_twice ml_L_145 isO_0 (fitL ha (Nat.le_of_ble_eq_true rfl)) rfl rfl (Nat.le_of_ble_eq_true rfl) hk dL_law_947 ?_
  refine l_aload_n 2 _ dL_law_950 rfl rfl ?_
  refine l_callI h2 mw_X6_twice mi_X6_twice ml_L_148 isO_33 (fitL hb (Nat.le_of_ble_eq_true rfl)) rfl rfl (Nat.le_of_ble_eq_true rfl) hk dL_law_951 ?_
  exact l_icmp_eq 1108 dL_law_954 (by decide) (fun _ => l_widen (Nat.le_succ _) (Nat.le_add_right _ _) (kk μ2 x y h3)) (fun h9 => absurd rfl h9)
theorem q_swap {L : Nat} {xs : Nat → Int32} {i ck sk : Nat} {x y : Option Value} {μ : Mm} (hi : i + 5 ≤ L) (hL : L ≤ 2560) (hk : Cap ck sk) (h : Rel μ) (kk : ∀ (μ' : Mm) (x y : Option Value), Rel μ' → GL L xs (ck + 1) (sk + 6) μ' 1108 (LOC i x y) []) : GL L xs ck sk μ 959 (LOC i x y) [] := by
  obtain ⟨z, μ1, μ2, a, b, ha, hb, h1, h2, h3⟩ := e_swap μ h (xs (i + 1)) (xs (i + 2))
  refine l_aload_n 1 _ dL_law_959 rfl rfl ?_
  refine l_arg 1 hi hL (by decide) dL_law_960 dL_law_961 dL_law_963 rfl dL_law_964 dL_law_965 ?_
  refine l_arg 2 hi hL (by decide) dL_law_966 dL_law_967 dL_law_969 rfl dL_law_970 dL_law_971 ?_
  refine l_callI h1 mw_X5_swap mi_X5_swap ml_L_149 isO_0 (fitL ha (Nat.le_of_ble_eq_true rfl)) rfl rfl (Nat.le_of_ble_eq_true rfl) hk dL_law_972 ?_
  refine l_aload_n 2 _ dL_law_975 rfl rfl ?_
  refine l_arg 1 hi hL (by decide) dL_law_976 dL_law_977 dL_law_979 rfl dL_law_980 dL_law_981 ?_
  refine l_arg 2 hi hL (by decide) dL_law_982 dL_law_983 dL_law_985 rfl dL_law_986 dL_law_987 ?_
  refine l_callI h2 mw_X6_swap mi_X6_swap ml_L_152 isO_33 (fitL hb (Nat.le_of_ble_eq_true rfl)) rfl rfl (Nat.le_of_ble_eq_true rfl) hk dL_law_988 ?_
  exact l_icmp_eq 1108 dL_law_991 (by decide) (fun _ => l_widen (Nat.le_succ _) (Nat.le_add_right _ _) (kk μ2 x y h3)) (fun h9 => absurd rfl h9)
theorem q_sign {L : Nat} {xs : Nat → Int32} {i ck sk : Nat} {x y : Option Value} {μ : Mm} (hi : i + 5 ≤ L) (hL : L ≤ 2560) (hk : Cap ck sk) (h : Rel μ) (kk : ∀ (μ' : Mm) (x y : Option Value), Rel μ' → GL L xs (ck + 1) (sk + 6) μ' 1108 (LOC i x y) []) : GL L xs ck sk μ 996 (LOC i x y) [] := by
  obtain ⟨z, μ1, μ2, a, b, ha, hb, h1, h2, h3⟩ := e_sign μ h (xs (i + 1)) (xs (i + 2))
  refine l_aload_n 1 _ dL_law_996 rfl rfl ?_
  refine l_arg 1 hi hL (by decide) dL_law_997 dL_law_998 dL_law_1000 rfl dL_law_1001 dL_law_1002 ?_
  refine l_arg 2 hi hL (by decide) dL_law_1003 dL_law_1004 dL_law_1006 rfl dL_law_1007 dL_law_1008 ?_
  refine l_callI h1 mw_X5_sign mi_X5_sign ml_L_153 isO_0 (fitL ha (Nat.le_of_ble_eq_true rfl)) rfl rfl (Nat.le_of_ble_eq_true rfl) hk dL_law_1009 ?_
  refine l_aload_n 2 _ dL_law_1012 rfl rfl ?_
  refine l_arg 1 hi hL (by decide) dL_law_1013 dL_law_1014 dL_law_1016 rfl dL_law_1017 dL_law_1018 ?_
  refine l_arg 2 hi hL (by decide) dL_law_1019 dL_law_1020 dL_law_1022 rfl dL_law_1023 dL_law_1024 ?_
  refine l_callI h2 mw_X6_sign mi_X6_sign ml_L_156 isO_33 (fitL hb (Nat.le_of_ble_eq_true rfl)) rfl rfl (Nat.le_of_ble_eq_true rfl) hk dL_law_1025 ?_
  exact l_icmp_eq 1108 dL_law_1028 (by decide) (fun _ => l_widen (Nat.le_succ _) (Nat.le_add_right _ _) (kk μ2 x y h3)) (fun h9 => absurd rfl h9)
theorem q_product {L : Nat} {xs : Nat → Int32} {i ck sk : Nat} {x y : Option Value} {μ : Mm} (hi : i + 5 ≤ L) (hL : L ≤ 2560) (hk : Cap ck sk) (h : Rel μ) (kk : ∀ (μ' : Mm) (x y : Option Value), Rel μ' → GL L xs (ck + 1) (sk + 6) μ' 1108 (LOC i x y) []) : GL L xs ck sk μ 1033 (LOC i x y) [] := by
  obtain ⟨z, μ1, μ2, a, b, ha, hb, h1, h2, h3⟩ := e_product μ h (xs (i + 1)) (xs (i + 2))
  refine l_aload_n 1 _ dL_law_1033 rfl rfl ?_
  refine l_arg 1 hi hL (by decide) dL_law_1034 dL_law_1035 dL_law_1037 rfl dL_law_1038 dL_law_1039 ?_
  refine l_arg 2 hi hL (by decide) dL_law_1040 dL_law_1041 dL_law_1043 rfl dL_law_1044 dL_law_1045 ?_
  refine l_callI h1 mw_X5_product mi_X5_product ml_L_157 isO_0 (fitL ha (Nat.le_of_ble_eq_true rfl)) rfl rfl (Nat.le_of_ble_eq_true rfl) hk dL_law_1046 ?_
  refine l_aload_n 2 _ dL_law_1049 rfl rfl ?_
  refine l_arg 1 hi hL (by decide) dL_law_1050 dL_law_1051 dL_law_1053 rfl dL_law_1054 dL_law_1055 ?_
  refine l_arg 2 hi hL (by decide) dL_law_1056 dL_law_1057 dL_law_1059 rfl dL_law_1060 dL_law_1061 ?_
  refine l_callI h2 mw_X6_product mi_X6_product ml_L_160 isO_33 (fitL hb (Nat.le_of_ble_eq_true rfl)) rfl rfl (Nat.le_of_ble_eq_true rfl) hk dL_law_1062 ?_
  exact l_icmp_eq 1108 dL_law_1065 (by decide) (fun _ => l_widen (Nat.le_succ _) (Nat.le_add_right _ _) (kk μ2 x y h3)) (fun h9 => absurd rfl h9)
theorem q_look {L : Nat} {xs : Nat → Int32} {i ck sk : Nat} {x y : Option Value} {μ : Mm} (hi : i + 5 ≤ L) (hL : L ≤ 2560) (hk : Cap ck sk) (h : Rel μ) (kk : ∀ (μ' : Mm) (x y : Option Value), Rel μ' → GL L xs (ck + 1) (sk + 6) μ' 1108 (LOC i x y) []) : GL L xs ck sk μ 1070 (LOC i x y) [] := by
  obtain ⟨z, μ1, μ2, a, b, ha, hb, h1, h2, h3⟩ := e_look μ h (xs (i + 1))
  refine l_aload_n 1 _ dL_law_1070 rfl rfl ?_
  refine l_arg 1 hi hL (by decide) dL_law_1071 dL_law_1072 dL_law_1074 rfl dL_law_1075 dL_law_1076 ?_
  refine l_callI h1 mw_X5_look mi_X5_look ml_L_161 isO_0 (fitL ha (Nat.le_of_ble_eq_true rfl)) rfl rfl (Nat.le_of_ble_eq_true rfl) hk dL_law_1077 ?_
  refine l_aload_n 2 _ dL_law_1080 rfl rfl ?_
  refine l_arg 1 hi hL (by decide) dL_law_1081 dL_law_1082 dL_law_1084 rfl dL_law_1085 dL_law_1086 ?_
  refine l_callI h2 mw_X6_look mi_X6_look ml_L_164 isO_33 (fitL hb (Nat.le_of_ble_eq_true rfl)) rfl rfl (Nat.le_of_ble_eq_true rfl) hk dL_law_1087 ?_
  exact l_icmp_eq 1108 dL_law_1090 (by decide) (fun _ => l_widen (Nat.le_succ _) (Nat.le_add_right _ _) (kk μ2 x y h3)) (fun h9 => absurd rfl h9)
theorem q_fault {L : Nat} {xs : Nat → Int32} {i ck sk : Nat} {x y : Option Value} {μ : Mm} (hi : i + 5 ≤ L) (hL : L ≤ 2560) (hk : Cap ck sk) (h : Rel μ) (kk : ∀ (μ' : Mm) (x y : Option Value), Rel μ' → GL L xs (ck + 1) (sk + 6) μ' 1108 (LOC i x y) []) : GL L xs ck sk μ 1095 (LOC i x y) [] := by
  obtain ⟨z, μ1, μ2, a, b, ha, hb, h1, h2, h3⟩ := e_fault μ h 
  refine l_aload_n 1 _ dL_law_1095 rfl rfl ?_
  refine l_callI h1 mw_X5_fault mi_X5_fault ml_L_165 isO_0 (fitL ha (Nat.le_of_ble_eq_true rfl)) rfl rfl (Nat.le_of_ble_eq_true rfl) hk dL_law_1096 ?_
  refine l_aload_n 2 _ dL_law_1099 rfl rfl ?_
  refine l_callI h2 mw_X6_fault mi_X6_fault ml_L_168 isO_33 (fitL hb (Nat.le_of_ble_eq_true rfl)) rfl rfl (Nat.le_of_ble_eq_true rfl) hk dL_law_1100 ?_
  exact l_icmp_eq 1108 dL_law_1103 (by decide) (fun _ => l_widen (Nat.le_succ _) (Nat.le_add_right _ _) (kk μ2 x y h3)) (fun h9 => absurd rfl h9)
/-! at -/
theorem l_stk {L : Nat} {xs : Nat → Int32} {ck sk : Nat} {μ : Mm} {pc : Nat} {lo : List (Option Value)} {st st' : List Value} (h : st = st') (k : GL L xs ck sk μ pc lo st') : GL L xs ck sk μ pc lo st := h ▸ k
/-- both at, once the law's at has answered kx and the reference z -/
theorem q_at0 {L : Nat} {xs : Nat → Int32} {i ck sk : Nat} {x y : Option Value} {μ μ1 μ2 : Mm} {rmc : Room} {kx z : Int32} (hi : i + 5 ≤ L) (hL : L ≤ 2560) (hk : Cap ck sk) (hF : rmc.frames + 1 ≤ 10 ∧ 8 + (5 + 11) + rmc.locals ≤ 344) (hcm : rmc.cells ≤ 1 ∧ rmc.slots ≤ 6) (hk1 : Cap (ck + 1) (sk + 6)) (h1 : OkA rmc [.ref 0, .int (xs (i + 1)), .int (xs (i + 2)), .ref 46] μ (some (.int kx), μ1)) (h2 : Ok mX6_at (rmL 1) [.ref 33, .int (xs (i + 1)), .int (xs (i + 2))] μ1 (some (.int z), μ2)) (ht : μ2.1 33 15 = kx) (hv : kx = 0 → μ2.2 46 0 = z.toInt64) (kk : ∀ x y : Option Value, GL L xs (ck + 1) (sk + 6) μ2 1108 (LOC i x y) []) : GL L xs ck sk μ 386 (LOC i x y) [] := by
  refine l_aload_n 1 _ dL_law_386 rfl rfl ?_
  refine l_arg 1 hi hL (by decide) dL_law_387 dL_law_388 dL_law_390 rfl dL_law_391 dL_law_392 ?_
  refine l_arg 2 hi hL (by decide) dL_law_393 dL_law_394 dL_law_396 rfl dL_law_397 dL_law_398 ?_
  refine l_aload_n 3 _ dL_law_399 rfl rfl ?_
  refine l_at h1 hF hcm rfl rfl (Nat.le_of_ble_eq_true rfl) hk dL_law_400 ?_
  refine l_istore (LOC i (some (.int kx)) y) dL_law_403 (by decide) rfl rfl ?_
  refine l_aload_n 2 _ dL_law_405 rfl rfl ?_
  refine l_arg 1 hi hL (by decide) dL_law_406 dL_law_407 dL_law_409 rfl dL_law_410 dL_law_411 ?_
  refine l_arg 2 hi hL (by decide) dL_law_412 dL_law_413 dL_law_415 rfl dL_law_416 dL_law_417 ?_
  refine l_callI h2 mw_X6_at mi_X6_at ml_L_51 isO_33 (fitL (by decide) (Nat.le_of_ble_eq_true rfl)) rfl rfl (Nat.le_of_ble_eq_true rfl) hk1 dL_law_418 ?_
  refine l_istore (LOC i (some (.int kx)) (some (.int z))) dL_law_421 (by decide) rfl rfl ?_
  refine l_aload_n 2 _ dL_law_423 rfl rfl ?_
  refine l_callI (d_thrown μ2) mw_X6_thrown mi_X6_thrown ml_L_52 isO_33 (fitL (by decide) (Nat.le_of_ble_eq_true rfl)) rfl rfl (Nat.le_of_ble_eq_true rfl) hk1 dL_law_424 ?_
  refine l_iload _ dL_law_427 rfl ?_
  refine l_icmp_eq 434 dL_law_429 (by decide) (fun _ => ?_) (fun h9 => absurd ht h9)
  refine l_iload _ dL_law_434 rfl ?_
  have hend : GL L xs (ck + 1) (sk + 6) μ2 451 (LOC i (some (.int kx)) (some (.int z))) [] := l_goto 1108 dL_law_451 (by decide) (kk _ _)
  refine l_if_ne 451 dL_law_436 (by decide) (fun _ => hend) (fun h0 => ?_)
  refine l_aload_n 3 _ dL_law_439 rfl rfl ?_
  refine l_iconst (nI 0) dL_law_440 rfl ?_
  refine l_laload (j := 0) isL_46 rfl (by decide) (by decide) dL_law_441 ?_
  refine l_iload _ dL_law_442 rfl ?_
  refine l_i2l dL_law_444 ?_
  refine l_lcmp dL_law_445 ?_
  exact l_if_eq 451 dL_law_446 (by decide) (fun _ => hend) (fun h9 => absurd ((cmp_eq _ _).mpr (hv h0)) h9)
theorem q_at {L : Nat} {xs : Nat → Int32} {i ck sk : Nat} {x y : Option Value} {μ : Mm} (hi : i + 5 ≤ L) (hL : L ≤ 2560) (hk : Cap ck sk) (h : Rel μ) (kk : ∀ (μ' : Mm) (x y : Option Value), Rel μ' → GL L xs (ck + 1) (sk + 6) μ' 1108 (LOC i x y) []) (hk1 : Cap (ck + 1) (sk + 6)) : GL L xs ck sk μ 386 (LOC i x y) [] := by
  obtain ⟨n, hR⟩ := h
  obtain ⟨h1, h60, ⟨hn, hn6, hM, h34⟩, ⟨h35, hS⟩, hD, h7⟩ := id hR
  by_cases c : 0 ≤ (xs (i + 1)).toInt ∧ (xs (i + 1)).toInt ≤ 2 ∧ 0 ≤ (xs (i + 2)).toInt ∧ (xs (i + 2)).toInt < (nI n).toInt
  · obtain ⟨w, ew, hw⟩ := nat9 c.1
    obtain ⟨j, ej, hj⟩ := nat9 c.2.2.1
    have hj2 : j < n := by
      have := c.2.2.2
      rw [nI_toInt (by omega)] at this
      omega
    have w2 : w ≤ 2 := by omega
    have big : (nI 1073741824).toInt = 1073741824 := by decide
    by_cases cw : w < 2
    · have hw9 : w = 0 ∨ w = 1 := by omega
      have hne : μ.1 (7 + w) j ≠ nI 1073741824 := by
        intro e
        rcases hw9 with rfl | rfl
        · have := hM j hj2
          rw [show μ.1 7 j = nI 1073741824 from e, big] at this
          omega
        · have e2 : μ.1 8 j = nI 1073741824 := e
          rcases hS with q | ⟨-, q⟩
          · have := q j hj2
            rw [e2, big] at this
            omega
          · have := q j hj2
            rw [e2, big] at this
            omega
      have hsame : μ.1 (7 + w) j = μ.1 (34 + w) j := by
        rcases hw9 with rfl | rfl
        · exact congrFun h34.symm j
        · exact congrFun h35.symm j
      refine q_at0 (kx := nI 0) (z := μ.1 (34 + w) j) hi hL hk ⟨by decide, by decide⟩ ⟨by decide, by decide⟩ hk1 (rmc := rmA0) (μ1 := sL μ 46 0 (μ.1 (7 + w) j).toInt64) (by rw [ew, ej]; exact a_ok μ hn h60 (by omega) hj2 hne) (by rw [ew, ej]; exact d_at_01 _ (n := n) hn6 h60 cw hj2) rfl (fun _ => ?_) (fun x y => kk _ x y ⟨n, ?_⟩)
      · rw [← hsame]; rfl
      · exact hR
    · have : w = 2 := by omega
      subst this
      obtain ⟨hd, hb1, hb2⟩ := hD j hj2
      rcases hd with ⟨hz, hr⟩ | ⟨hz, hr⟩
      · have hne : μ.1 (7 + 2) j ≠ nI 1073741824 := by
          intro e
          rw [← hr, show μ.1 9 j = nI 1073741824 from e, big] at hb2
          omega
        refine q_at0 (kx := nI 0) (z := μ.1 36 j) hi hL hk ⟨by decide, by decide⟩ ⟨by decide, by decide⟩ hk1 (rmc := rmA0) (μ1 := sL μ 46 0 (μ.1 (7 + 2) j).toInt64) (by rw [ew, ej]; exact a_ok μ hn h60 (by omega) hj2 hne) (by rw [ew, ej]; exact d_at_2 _ (n := n) hn6 h60 hj2 hz) rfl (fun _ => ?_) (fun x y => kk _ x y ⟨n, ?_⟩)
        · rw [← hr]; rfl
        · exact hR
      · refine q_at0 (kx := nI 1) (z := nI 0) hi hL hk ⟨by decide, by decide⟩ ⟨by decide, by decide⟩ hk1 (rmc := rmA) (μ1 := μ) (by rw [ew, ej]; exact a_no (c_at_miss μ hn h60 hj2 hr)) (by rw [ew, ej]; exact d_at_m μ hn6 h60 hj2 (by rw [hz]; decide)) rfl (fun h9 => absurd h9 (by decide)) (fun x y => kk _ x y ⟨n, ?_⟩)
        exact hR
  · refine q_at0 (kx := nI 1) (z := nI 0) hi hL hk ⟨by decide, by decide⟩ ⟨by decide, by decide⟩ hk1 (rmc := rmA) (μ1 := μ) (a_no (c_at_no μ _ _ hn h60 c)) (d_at_no μ _ _ hn6 h60 c) rfl (fun h9 => absurd h9 (by decide)) (fun x y => kk _ x y ⟨n, ?_⟩)
    exact hR
