section
variable {p : Program} {l : Launch} {e : Env} {s : State} {m : MethodId} {below : List Frame} {meth : Method} {c : Code} {sa : Nat → Nat} {D : va_G} {X : Nat → ClassId} {ad : Nat → Nat} {b L : Nat} {xs : Nat → Int32} {ω : Mem} {j pc : Nat} {rest : List Value}
set_option maxRecDepth 100000 in
set_option maxHeartbeats 4000000 in
theorem k_press (C : KC p s m b meth c sa D X) (K : KX s (LA s) b L xs) (hj : j + 3 ≤ L) (hL : L ≤ 1536) (h : LR ω ω) (kk : ∀ ω, LR ω ω → LV p l e s m b below meth c D X ad ω (j + 3) 18 []) : LV p l e s m b below meth c D X ad ω j 289 [] := by
  by_cases hb : xs (j + 1) < 0 ∨ 4 ≤ xs (j + 1)
  · obtain ⟨h1, he, h2⟩ := op2 (a := ((f_X7_pressB (xs (j + 1)) (boo (xs (j + 2))) ω), ω)) (b := fun μ => (f_X8_pressB (xs (j + 1)) (boo (xs (j + 2))) μ)) h (fun μ hμ => opB hμ)
    refine g_aload_n C dL_law_289 rfl 2 rfl ?_
    refine k_arg C K (k := 1) (by decide) (by omega) hL rfl dL_law_290 dL_law_291 dL_law_292 dL_law_293 dL_law_294 ?_
    refine k_arg C K (k := 2) (by decide) (by omega) hL rfl dL_law_295 dL_law_296 dL_law_297 dL_law_298 dL_law_299 ?_
    refine k_boo C dL_law_300 dL_law_303 dL_law_304 dL_law_307 ?_
    refine g_callV (rest := []) (st1 := [.int (f_X7_pressB (xs (j + 1)) (boo (xs (j + 2))) ω)]) C (c_X7_pressB (xs (j + 1)) (boo (xs (j + 2))) (boo_bb _) hb ω) (cwV 2 C.hts gL_law_X7_press rfl rfl rfl md_X7_press ⟨(Nat.le_of_ble_eq_true rfl), (Nat.le_of_ble_eq_true rfl)⟩) (by decide) (mk_0 (by decide)) rfl rfl rfl rfl rfl (Nat.le_of_ble_eq_true rfl) dL_law_308 (Nat.le_of_ble_eq_true rfl) (Nat.le_of_ble_eq_true rfl) ?_
    refine g_aload_n C dL_law_311 rfl 1 rfl ?_
    refine k_arg C K (k := 1) (by decide) (by omega) hL rfl dL_law_312 dL_law_313 dL_law_314 dL_law_315 dL_law_316 ?_
    refine k_arg C K (k := 2) (by decide) (by omega) hL rfl dL_law_317 dL_law_318 dL_law_319 dL_law_320 dL_law_321 ?_
    refine k_boo C dL_law_322 dL_law_325 dL_law_326 dL_law_329 ?_
    refine g_callV (rest := [.int (f_X7_pressB (xs (j + 1)) (boo (xs (j + 2))) ω)]) (st1 := [.int (f_X8_pressB (xs (j + 1)) (boo (xs (j + 2))) ω).1, .int (f_X7_pressB (xs (j + 1)) (boo (xs (j + 2))) ω)]) C (c_X8_pressB (xs (j + 1)) (boo (xs (j + 2))) (boo_bb _) hb ω) (cwV 2 C.hts gL_law_X8_press rfl rfl rfl md_X8_press ⟨(Nat.le_of_ble_eq_true rfl), (Nat.le_of_ble_eq_true rfl)⟩) (by decide) (mk_11 (by decide)) rfl rfl rfl rfl rfl (Nat.le_of_ble_eq_true rfl) dL_law_330 (Nat.le_of_ble_eq_true rfl) (Nat.le_of_ble_eq_true rfl) ?_
    exact k_cmp C he dL_law_333 (by decide) (kk _ h2)
  · obtain ⟨k, hk, e1⟩ := k_burn hb
    obtain ⟨h1, he, h2⟩ := op2 (a := (f_X7_press k (boo (xs (j + 2))) ω)) (b := fun μ => (f_X8_press k (boo (xs (j + 2))) μ)) h (fun μ hμ => op_press hμ hk (boo_bb _))
    refine g_aload_n C dL_law_289 rfl 2 rfl ?_
    refine k_arg C K (k := 1) (by decide) (by omega) hL e1 dL_law_290 dL_law_291 dL_law_292 dL_law_293 dL_law_294 ?_
    refine k_arg C K (k := 2) (by decide) (by omega) hL rfl dL_law_295 dL_law_296 dL_law_297 dL_law_298 dL_law_299 ?_
    refine k_boo C dL_law_300 dL_law_303 dL_law_304 dL_law_307 ?_
    refine g_callV (rest := []) (st1 := [.int (f_X7_press k (boo (xs (j + 2))) ω).1]) C (c_X7_press k (boo (xs (j + 2))) (boo_bb _) hk ω (h.hst)) (cwV 2 C.hts gL_law_X7_press rfl rfl rfl md_X7_press ⟨(Nat.le_of_ble_eq_true rfl), (Nat.le_of_ble_eq_true rfl)⟩) (by decide) (mk_0 (by decide)) rfl rfl rfl rfl rfl (Nat.le_of_ble_eq_true rfl) dL_law_308 (Nat.le_of_ble_eq_true rfl) (Nat.le_of_ble_eq_true rfl) ?_
    refine g_aload_n C dL_law_311 rfl 1 rfl ?_
    refine k_arg C K (k := 1) (by decide) (by omega) hL e1 dL_law_312 dL_law_313 dL_law_314 dL_law_315 dL_law_316 ?_
    refine k_arg C K (k := 2) (by decide) (by omega) hL rfl dL_law_317 dL_law_318 dL_law_319 dL_law_320 dL_law_321 ?_
    refine k_boo C dL_law_322 dL_law_325 dL_law_326 dL_law_329 ?_
    refine g_callV (rest := [.int (f_X7_press k (boo (xs (j + 2))) ω).1]) (st1 := [.int (f_X8_press k (boo (xs (j + 2))) (f_X7_press k (boo (xs (j + 2))) ω).2).1, .int (f_X7_press k (boo (xs (j + 2))) ω).1]) C (c_X8_press k (boo (xs (j + 2))) (boo_bb _) hk (f_X7_press k (boo (xs (j + 2))) ω).2 (h1.mi)) (cwV 2 C.hts gL_law_X8_press rfl rfl rfl md_X8_press ⟨(Nat.le_of_ble_eq_true rfl), (Nat.le_of_ble_eq_true rfl)⟩) (by decide) (mk_11 (by decide)) rfl rfl rfl rfl rfl (Nat.le_of_ble_eq_true rfl) dL_law_330 (Nat.le_of_ble_eq_true rfl) (Nat.le_of_ble_eq_true rfl) ?_
    exact k_cmp C he dL_law_333 (by decide) (kk _ h2)
set_option maxRecDepth 100000 in
set_option maxHeartbeats 4000000 in
theorem k_igniter (C : KC p s m b meth c sa D X) (K : KX s (LA s) b L xs) (hj : j + 3 ≤ L) (hL : L ≤ 1536) (h : LR ω ω) (kk : ∀ ω, LR ω ω → LV p l e s m b below meth c D X ad ω (j + 3) 18 []) : LV p l e s m b below meth c D X ad ω j 338 [] := by
  by_cases hb : xs (j + 1) < 0 ∨ 4 ≤ xs (j + 1)
  · obtain ⟨h1, he, h2⟩ := op2 (a := ((f_X7_igniterB (xs (j + 1)) (boo (xs (j + 2))) ω), ω)) (b := fun μ => (f_X8_igniterB (xs (j + 1)) (boo (xs (j + 2))) μ)) h (fun μ hμ => opB hμ)
    refine g_aload_n C dL_law_338 rfl 2 rfl ?_
    refine k_arg C K (k := 1) (by decide) (by omega) hL rfl dL_law_339 dL_law_340 dL_law_341 dL_law_342 dL_law_343 ?_
    refine k_arg C K (k := 2) (by decide) (by omega) hL rfl dL_law_344 dL_law_345 dL_law_346 dL_law_347 dL_law_348 ?_
    refine k_boo C dL_law_349 dL_law_352 dL_law_353 dL_law_356 ?_
    refine g_callV (rest := []) (st1 := [.int (f_X7_igniterB (xs (j + 1)) (boo (xs (j + 2))) ω)]) C (c_X7_igniterB (xs (j + 1)) (boo (xs (j + 2))) (boo_bb _) hb ω) (cwV 2 C.hts gL_law_X7_igniter rfl rfl rfl md_X7_igniter ⟨(Nat.le_of_ble_eq_true rfl), (Nat.le_of_ble_eq_true rfl)⟩) (by decide) (mk_0 (by decide)) rfl rfl rfl rfl rfl (Nat.le_of_ble_eq_true rfl) dL_law_357 (Nat.le_of_ble_eq_true rfl) (Nat.le_of_ble_eq_true rfl) ?_
    refine g_aload_n C dL_law_360 rfl 1 rfl ?_
    refine k_arg C K (k := 1) (by decide) (by omega) hL rfl dL_law_361 dL_law_362 dL_law_363 dL_law_364 dL_law_365 ?_
    refine k_arg C K (k := 2) (by decide) (by omega) hL rfl dL_law_366 dL_law_367 dL_law_368 dL_law_369 dL_law_370 ?_
    refine k_boo C dL_law_371 dL_law_374 dL_law_375 dL_law_378 ?_
    refine g_callV (rest := [.int (f_X7_igniterB (xs (j + 1)) (boo (xs (j + 2))) ω)]) (st1 := [.int (f_X8_igniterB (xs (j + 1)) (boo (xs (j + 2))) ω).1, .int (f_X7_igniterB (xs (j + 1)) (boo (xs (j + 2))) ω)]) C (c_X8_igniterB (xs (j + 1)) (boo (xs (j + 2))) (boo_bb _) hb ω) (cwV 2 C.hts gL_law_X8_igniter rfl rfl rfl md_X8_igniter ⟨(Nat.le_of_ble_eq_true rfl), (Nat.le_of_ble_eq_true rfl)⟩) (by decide) (mk_11 (by decide)) rfl rfl rfl rfl rfl (Nat.le_of_ble_eq_true rfl) dL_law_379 (Nat.le_of_ble_eq_true rfl) (Nat.le_of_ble_eq_true rfl) ?_
    exact k_cmp C he dL_law_382 (by decide) (kk _ h2)
  · obtain ⟨k, hk, e1⟩ := k_burn hb
    obtain ⟨h1, he, h2⟩ := op2 (a := (f_X7_igniter k (boo (xs (j + 2))) ω)) (b := fun μ => (f_X8_igniter k (boo (xs (j + 2))) μ)) h (fun μ hμ => op_igniter hμ hk (boo_bb _))
    refine g_aload_n C dL_law_338 rfl 2 rfl ?_
    refine k_arg C K (k := 1) (by decide) (by omega) hL e1 dL_law_339 dL_law_340 dL_law_341 dL_law_342 dL_law_343 ?_
    refine k_arg C K (k := 2) (by decide) (by omega) hL rfl dL_law_344 dL_law_345 dL_law_346 dL_law_347 dL_law_348 ?_
    refine k_boo C dL_law_349 dL_law_352 dL_law_353 dL_law_356 ?_
    refine g_callV (rest := []) (st1 := [.int (f_X7_igniter k (boo (xs (j + 2))) ω).1]) C (c_X7_igniter k (boo (xs (j + 2))) (boo_bb _) hk ω (h.hst)) (cwV 2 C.hts gL_law_X7_igniter rfl rfl rfl md_X7_igniter ⟨(Nat.le_of_ble_eq_true rfl), (Nat.le_of_ble_eq_true rfl)⟩) (by decide) (mk_0 (by decide)) rfl rfl rfl rfl rfl (Nat.le_of_ble_eq_true rfl) dL_law_357 (Nat.le_of_ble_eq_true rfl) (Nat.le_of_ble_eq_true rfl) ?_
    refine g_aload_n C dL_law_360 rfl 1 rfl ?_
    refine k_arg C K (k := 1) (by decide) (by omega) hL e1 dL_law_361 dL_law_362 dL_law_363 dL_law_364 dL_law_365 ?_
    refine k_arg C K (k := 2) (by decide) (by omega) hL rfl dL_law_366 dL_law_367 dL_law_368 dL_law_369 dL_law_370 ?_
    refine k_boo C dL_law_371 dL_law_374 dL_law_375 dL_law_378 ?_
    refine g_callV (rest := [.int (f_X7_igniter k (boo (xs (j + 2))) ω).1]) (st1 := [.int (f_X8_igniter k (boo (xs (j + 2))) (f_X7_igniter k (boo (xs (j + 2))) ω).2).1, .int (f_X7_igniter k (boo (xs (j + 2))) ω).1]) C (c_X8_igniter k (boo (xs (j + 2))) (boo_bb _) hk (f_X7_igniter k (boo (xs (j + 2))) ω).2 (h1.mi)) (cwV 2 C.hts gL_law_X8_igniter rfl rfl rfl md_X8_igniter ⟨(Nat.le_of_ble_eq_true rfl), (Nat.le_of_ble_eq_true rfl)⟩) (by decide) (mk_11 (by decide)) rfl rfl rfl rfl rfl (Nat.le_of_ble_eq_true rfl) dL_law_379 (Nat.le_of_ble_eq_true rfl) (Nat.le_of_ble_eq_true rfl) ?_
    exact k_cmp C he dL_law_382 (by decide) (kk _ h2)
set_option maxRecDepth 100000 in
set_option maxHeartbeats 4000000 in
theorem k_light (C : KC p s m b meth c sa D X) (K : KX s (LA s) b L xs) (hj : j + 3 ≤ L) (hL : L ≤ 1536) (h : LR ω ω) (kk : ∀ ω, LR ω ω → LV p l e s m b below meth c D X ad ω (j + 3) 18 []) : LV p l e s m b below meth c D X ad ω j 387 [] := by
  by_cases hb : xs (j + 1) < 0 ∨ 4 ≤ xs (j + 1)
  · obtain ⟨h1, he, h2⟩ := op2 (a := ((f_X7_lightB (xs (j + 1)) ω), ω)) (b := fun μ => (f_X8_lightB (xs (j + 1)) μ)) h (fun μ hμ => opB hμ)
    refine g_aload_n C dL_law_387 rfl 2 rfl ?_
    refine k_arg C K (k := 1) (by decide) (by omega) hL rfl dL_law_388 dL_law_389 dL_law_390 dL_law_391 dL_law_392 ?_
    refine g_callV (rest := []) (st1 := [.int (f_X7_lightB (xs (j + 1)) ω)]) C (c_X7_lightB (xs (j + 1)) hb ω) (cwV 1 C.hts gL_law_X7_light rfl rfl rfl md_X7_light ⟨(Nat.le_of_ble_eq_true rfl), (Nat.le_of_ble_eq_true rfl)⟩) (by decide) (mk_0 (by decide)) rfl rfl rfl rfl rfl (Nat.le_of_ble_eq_true rfl) dL_law_393 (Nat.le_of_ble_eq_true rfl) (Nat.le_of_ble_eq_true rfl) ?_
    refine g_aload_n C dL_law_396 rfl 1 rfl ?_
    refine k_arg C K (k := 1) (by decide) (by omega) hL rfl dL_law_397 dL_law_398 dL_law_399 dL_law_400 dL_law_401 ?_
    refine g_callV (rest := [.int (f_X7_lightB (xs (j + 1)) ω)]) (st1 := [.int (f_X8_lightB (xs (j + 1)) ω).1, .int (f_X7_lightB (xs (j + 1)) ω)]) C (c_X8_lightB (xs (j + 1)) hb ω) (cwV 1 C.hts gL_law_X8_light rfl rfl rfl md_X8_light ⟨(Nat.le_of_ble_eq_true rfl), (Nat.le_of_ble_eq_true rfl)⟩) (by decide) (mk_11 (by decide)) rfl rfl rfl rfl rfl (Nat.le_of_ble_eq_true rfl) dL_law_402 (Nat.le_of_ble_eq_true rfl) (Nat.le_of_ble_eq_true rfl) ?_
    exact k_cmp C he dL_law_405 (by decide) (kk _ h2)
  · obtain ⟨k, hk, e1⟩ := k_burn hb
    obtain ⟨h1, he, h2⟩ := op2 (a := (f_X7_light k ω)) (b := fun μ => (f_X8_light k μ)) h (fun μ hμ => op_light hμ hk)
    refine g_aload_n C dL_law_387 rfl 2 rfl ?_
    refine k_arg C K (k := 1) (by decide) (by omega) hL e1 dL_law_388 dL_law_389 dL_law_390 dL_law_391 dL_law_392 ?_
    refine g_callV (rest := []) (st1 := [.int (f_X7_light k ω).1]) C (c_X7_light k hk ω (h.hst)) (cwV 1 C.hts gL_law_X7_light rfl rfl rfl md_X7_light ⟨(Nat.le_of_ble_eq_true rfl), (Nat.le_of_ble_eq_true rfl)⟩) (by decide) (mk_0 (by decide)) rfl rfl rfl rfl rfl (Nat.le_of_ble_eq_true rfl) dL_law_393 (Nat.le_of_ble_eq_true rfl) (Nat.le_of_ble_eq_true rfl) ?_
    refine g_aload_n C dL_law_396 rfl 1 rfl ?_
    refine k_arg C K (k := 1) (by decide) (by omega) hL e1 dL_law_397 dL_law_398 dL_law_399 dL_law_400 dL_law_401 ?_
    refine g_callV (rest := [.int (f_X7_light k ω).1]) (st1 := [.int (f_X8_light k (f_X7_light k ω).2).1, .int (f_X7_light k ω).1]) C (c_X8_light k hk (f_X7_light k ω).2 (h1.mi)) (cwV 1 C.hts gL_law_X8_light rfl rfl rfl md_X8_light ⟨(Nat.le_of_ble_eq_true rfl), (Nat.le_of_ble_eq_true rfl)⟩) (by decide) (mk_11 (by decide)) rfl rfl rfl rfl rfl (Nat.le_of_ble_eq_true rfl) dL_law_402 (Nat.le_of_ble_eq_true rfl) (Nat.le_of_ble_eq_true rfl) ?_
    exact k_cmp C he dL_law_405 (by decide) (kk _ h2)
set_option maxRecDepth 100000 in
set_option maxHeartbeats 4000000 in
theorem k_unlock (C : KC p s m b meth c sa D X) (K : KX s (LA s) b L xs) (hj : j + 3 ≤ L) (hL : L ≤ 1536) (h : LR ω ω) (kk : ∀ ω, LR ω ω → LV p l e s m b below meth c D X ad ω (j + 3) 18 []) : LV p l e s m b below meth c D X ad ω j 410 [] := by
  by_cases hb : xs (j + 1) < 0 ∨ 4 ≤ xs (j + 1)
  · obtain ⟨h1, he, h2⟩ := op2 (a := ((f_X7_unlockB (xs (j + 1)) ω), ω)) (b := fun μ => (f_X8_unlockB (xs (j + 1)) μ)) h (fun μ hμ => opB hμ)
    refine g_aload_n C dL_law_410 rfl 2 rfl ?_
    refine k_arg C K (k := 1) (by decide) (by omega) hL rfl dL_law_411 dL_law_412 dL_law_413 dL_law_414 dL_law_415 ?_
    refine g_callV (rest := []) (st1 := [.int (f_X7_unlockB (xs (j + 1)) ω)]) C (c_X7_unlockB (xs (j + 1)) hb ω) (cwV 1 C.hts gL_law_X7_unlock rfl rfl rfl md_X7_unlock ⟨(Nat.le_of_ble_eq_true rfl), (Nat.le_of_ble_eq_true rfl)⟩) (by decide) (mk_0 (by decide)) rfl rfl rfl rfl rfl (Nat.le_of_ble_eq_true rfl) dL_law_416 (Nat.le_of_ble_eq_true rfl) (Nat.le_of_ble_eq_true rfl) ?_
    refine g_aload_n C dL_law_419 rfl 1 rfl ?_
    refine k_arg C K (k := 1) (by decide) (by omega) hL rfl dL_law_420 dL_law_421 dL_law_422 dL_law_423 dL_law_424 ?_
    refine g_callV (rest := [.int (f_X7_unlockB (xs (j + 1)) ω)]) (st1 := [.int (f_X8_unlockB (xs (j + 1)) ω).1, .int (f_X7_unlockB (xs (j + 1)) ω)]) C (c_X8_unlockB (xs (j + 1)) hb ω) (cwV 1 C.hts gL_law_X8_unlock rfl rfl rfl md_X8_unlock ⟨(Nat.le_of_ble_eq_true rfl), (Nat.le_of_ble_eq_true rfl)⟩) (by decide) (mk_11 (by decide)) rfl rfl rfl rfl rfl (Nat.le_of_ble_eq_true rfl) dL_law_425 (Nat.le_of_ble_eq_true rfl) (Nat.le_of_ble_eq_true rfl) ?_
    exact k_cmp C he dL_law_428 (by decide) (kk _ h2)
  · obtain ⟨k, hk, e1⟩ := k_burn hb
    obtain ⟨h1, he, h2⟩ := op2 (a := (f_X7_unlock k ω)) (b := fun μ => (f_X8_unlock k μ)) h (fun μ hμ => op_unlock hμ hk)
    refine g_aload_n C dL_law_410 rfl 2 rfl ?_
    refine k_arg C K (k := 1) (by decide) (by omega) hL e1 dL_law_411 dL_law_412 dL_law_413 dL_law_414 dL_law_415 ?_
    refine g_callV (rest := []) (st1 := [.int (f_X7_unlock k ω).1]) C (c_X7_unlock k hk ω (h.hst)) (cwV 1 C.hts gL_law_X7_unlock rfl rfl rfl md_X7_unlock ⟨(Nat.le_of_ble_eq_true rfl), (Nat.le_of_ble_eq_true rfl)⟩) (by decide) (mk_0 (by decide)) rfl rfl rfl rfl rfl (Nat.le_of_ble_eq_true rfl) dL_law_416 (Nat.le_of_ble_eq_true rfl) (Nat.le_of_ble_eq_true rfl) ?_
    refine g_aload_n C dL_law_419 rfl 1 rfl ?_
    refine k_arg C K (k := 1) (by decide) (by omega) hL e1 dL_law_420 dL_law_421 dL_law_422 dL_law_423 dL_law_424 ?_
    refine g_callV (rest := [.int (f_X7_unlock k ω).1]) (st1 := [.int (f_X8_unlock k (f_X7_unlock k ω).2).1, .int (f_X7_unlock k ω).1]) C (c_X8_unlock k hk (f_X7_unlock k ω).2 (h1.mi)) (cwV 1 C.hts gL_law_X8_unlock rfl rfl rfl md_X8_unlock ⟨(Nat.le_of_ble_eq_true rfl), (Nat.le_of_ble_eq_true rfl)⟩) (by decide) (mk_11 (by decide)) rfl rfl rfl rfl rfl (Nat.le_of_ble_eq_true rfl) dL_law_425 (Nat.le_of_ble_eq_true rfl) (Nat.le_of_ble_eq_true rfl) ?_
    exact k_cmp C he dL_law_428 (by decide) (kk _ h2)
end
