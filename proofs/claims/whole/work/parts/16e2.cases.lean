section
variable {p : Program} {l : Launch} {e : Env} {s : State} {m : MethodId} {below : List Frame} {meth : Method} {c : Code} {sa : Nat → Nat} {D : va_G} {X : Nat → ClassId} {ad : Nat → Nat} {b L : Nat} {xs : Nat → Int32} {ω : Mem} {j pc : Nat} {rest : List Value}
set_option maxRecDepth 100000 in
set_option maxHeartbeats 4000000 in
theorem k_pass (C : KC p s m b meth c sa D X) (K : KX s (LA s) b L xs) (hj : j + 3 ≤ L) (hL : L ≤ 1536) (h : LR ω ω) (kk : ∀ ω, LR ω ω → LV p l e s m b below meth c D X ad ω (j + 3) 18 []) : LV p l e s m b below meth c D X ad ω j 433 [] := by
  by_cases hb : xs (j + 1) < 1 ∨ 200 < xs (j + 1)
  · obtain ⟨h1, he, h2⟩ := op2 (a := ((f_X7_passB (xs (j + 1)) ω), ω)) (b := fun μ => (f_X8_passB (xs (j + 1)) μ)) h (fun μ hμ => opB hμ)
    refine g_aload_n C dL_law_433 rfl 2 rfl ?_
    refine k_arg C K (k := 1) (by decide) (by omega) hL rfl dL_law_434 dL_law_435 dL_law_436 dL_law_437 dL_law_438 ?_
    refine g_callV (rest := []) (st1 := [.int (f_X7_passB (xs (j + 1)) ω)]) C (c_X7_passB (xs (j + 1)) hb ω) (cwV 1 C.hts gL_law_X7_pass rfl rfl rfl md_X7_pass ⟨(Nat.le_of_ble_eq_true rfl), (Nat.le_of_ble_eq_true rfl)⟩) (by decide) (mk_0 (by decide)) rfl rfl rfl rfl rfl (Nat.le_of_ble_eq_true rfl) dL_law_439 (Nat.le_of_ble_eq_true rfl) (Nat.le_of_ble_eq_true rfl) ?_
    refine g_aload_n C dL_law_442 rfl 1 rfl ?_
    refine k_arg C K (k := 1) (by decide) (by omega) hL rfl dL_law_443 dL_law_444 dL_law_445 dL_law_446 dL_law_447 ?_
    refine g_callV (rest := [.int (f_X7_passB (xs (j + 1)) ω)]) (st1 := [.int (f_X8_passB (xs (j + 1)) ω).1, .int (f_X7_passB (xs (j + 1)) ω)]) C (c_X8_passB (xs (j + 1)) hb ω) (cwV 1 C.hts gL_law_X8_pass rfl rfl rfl md_X8_pass ⟨(Nat.le_of_ble_eq_true rfl), (Nat.le_of_ble_eq_true rfl)⟩) (by decide) (mk_11 (by decide)) rfl rfl rfl rfl rfl (Nat.le_of_ble_eq_true rfl) dL_law_448 (Nat.le_of_ble_eq_true rfl) (Nat.le_of_ble_eq_true rfl) ?_
    exact k_cmp C he dL_law_451 (by decide) (kk _ h2)
  · obtain ⟨k, hk, e1⟩ := k_tick hb
    obtain ⟨h1, he, h2⟩ := op2 (a := (f_X7_pass k ω)) (b := fun μ => (f_X8_pass k μ)) h (fun μ hμ => op_pass hμ hk)
    refine g_aload_n C dL_law_433 rfl 2 rfl ?_
    refine k_arg C K (k := 1) (by decide) (by omega) hL e1 dL_law_434 dL_law_435 dL_law_436 dL_law_437 dL_law_438 ?_
    refine g_callV (rest := []) (st1 := [.int (f_X7_pass k ω).1]) C (c_X7_pass k hk ω (h.hst)) (cwV 1 C.hts gL_law_X7_pass rfl rfl rfl md_X7_pass ⟨(Nat.le_of_ble_eq_true rfl), (Nat.le_of_ble_eq_true rfl)⟩) (by decide) (mk_0 (by decide)) rfl rfl rfl rfl rfl (Nat.le_of_ble_eq_true rfl) dL_law_439 (Nat.le_of_ble_eq_true rfl) (Nat.le_of_ble_eq_true rfl) ?_
    refine g_aload_n C dL_law_442 rfl 1 rfl ?_
    refine k_arg C K (k := 1) (by decide) (by omega) hL e1 dL_law_443 dL_law_444 dL_law_445 dL_law_446 dL_law_447 ?_
    refine g_callV (rest := [.int (f_X7_pass k ω).1]) (st1 := [.int (f_X8_pass k (f_X7_pass k ω).2).1, .int (f_X7_pass k ω).1]) C (c_X8_pass k hk (f_X7_pass k ω).2 (h1.mi)) (cwV 1 C.hts gL_law_X8_pass rfl rfl rfl md_X8_pass ⟨(Nat.le_of_ble_eq_true rfl), (Nat.le_of_ble_eq_true rfl)⟩) (by decide) (mk_11 (by decide)) rfl rfl rfl rfl rfl (Nat.le_of_ble_eq_true rfl) dL_law_448 (Nat.le_of_ble_eq_true rfl) (Nat.le_of_ble_eq_true rfl) ?_
    exact k_cmp C he dL_law_451 (by decide) (kk _ h2)
set_option maxRecDepth 100000 in
set_option maxHeartbeats 4000000 in
theorem k_type (C : KC p s m b meth c sa D X) (K : KX s (LA s) b L xs) (hj : j + 3 ≤ L) (hL : L ≤ 1536) (h : LR ω ω) (kk : ∀ ω, LR ω ω → LV p l e s m b below meth c D X ad ω (j + 3) 18 []) : LV p l e s m b below meth c D X ad ω j 456 [] := by
  obtain ⟨h1, he, h2⟩ := op2 (a := (f_X7_type ((xs (j + 1)).toUInt32 % 65536).toInt32 ω)) (b := fun μ => (f_X8_type ((xs (j + 1)).toUInt32 % 65536).toInt32 μ)) h (fun μ hμ => op_type hμ (pk_vc _))
  refine g_aload_n C dL_law_456 rfl 2 rfl ?_
  refine k_arg C K (k := 1) (by decide) (by omega) hL rfl dL_law_457 dL_law_458 dL_law_459 dL_law_460 dL_law_461 ?_
  refine g_i2c C dL_law_462 ?_
  refine g_callV (rest := []) (st1 := [.int (f_X7_type ((xs (j + 1)).toUInt32 % 65536).toInt32 ω).1]) C (c_X7_type ((xs (j + 1)).toUInt32 % 65536).toInt32 ω) (cwV 1 C.hts gL_law_X7_type rfl rfl rfl md_X7_type ⟨(Nat.le_of_ble_eq_true rfl), (Nat.le_of_ble_eq_true rfl)⟩) (by decide) (mk_0 (by decide)) rfl rfl rfl rfl rfl (Nat.le_of_ble_eq_true rfl) dL_law_463 (Nat.le_of_ble_eq_true rfl) (Nat.le_of_ble_eq_true rfl) ?_
  refine g_aload_n C dL_law_466 rfl 1 rfl ?_
  refine k_arg C K (k := 1) (by decide) (by omega) hL rfl dL_law_467 dL_law_468 dL_law_469 dL_law_470 dL_law_471 ?_
  refine g_i2c C dL_law_472 ?_
  refine g_callV (rest := [.int (f_X7_type ((xs (j + 1)).toUInt32 % 65536).toInt32 ω).1]) (st1 := [.int (f_X8_type ((xs (j + 1)).toUInt32 % 65536).toInt32 (f_X7_type ((xs (j + 1)).toUInt32 % 65536).toInt32 ω).2).1, .int (f_X7_type ((xs (j + 1)).toUInt32 % 65536).toInt32 ω).1]) C (c_X8_type ((xs (j + 1)).toUInt32 % 65536).toInt32 (f_X7_type ((xs (j + 1)).toUInt32 % 65536).toInt32 ω).2 (h1.2.2.2.2.1)) (cwV 1 C.hts gL_law_X8_type rfl rfl rfl md_X8_type ⟨(Nat.le_of_ble_eq_true rfl), (Nat.le_of_ble_eq_true rfl)⟩) (by decide) (mk_11 (by decide)) rfl rfl rfl rfl rfl (Nat.le_of_ble_eq_true rfl) dL_law_473 (Nat.le_of_ble_eq_true rfl) (Nat.le_of_ble_eq_true rfl) ?_
  exact k_cmp C he dL_law_476 (by decide) (kk _ h2)
set_option maxRecDepth 100000 in
set_option maxHeartbeats 4000000 in
theorem k_clearText (C : KC p s m b meth c sa D X) (K : KX s (LA s) b L xs) (hj : j + 3 ≤ L) (hL : L ≤ 1536) (h : LR ω ω) (kk : ∀ ω, LR ω ω → LV p l e s m b below meth c D X ad ω (j + 3) 18 []) : LV p l e s m b below meth c D X ad ω j 481 [] := by
  obtain ⟨h1, he, h2⟩ := op2 (a := (f_X7_clearText ω)) (b := fun μ => (f_X8_clearText μ)) h (fun μ hμ => op_clearText hμ)
  refine g_aload_n C dL_law_481 rfl 2 rfl ?_
  refine g_callV (rest := []) (st1 := [.int (f_X7_clearText ω).1]) C (c_X7_clearText ω) (cwV 0 C.hts gL_law_X7_clearText rfl rfl rfl md_X7_clearText ⟨(Nat.le_of_ble_eq_true rfl), (Nat.le_of_ble_eq_true rfl)⟩) (by decide) (mk_0 (by decide)) rfl rfl rfl rfl rfl (Nat.le_of_ble_eq_true rfl) dL_law_482 (Nat.le_of_ble_eq_true rfl) (Nat.le_of_ble_eq_true rfl) ?_
  refine g_aload_n C dL_law_485 rfl 1 rfl ?_
  refine g_callV (rest := [.int (f_X7_clearText ω).1]) (st1 := [.int (f_X8_clearText (f_X7_clearText ω).2).1, .int (f_X7_clearText ω).1]) C (c_X8_clearText (f_X7_clearText ω).2) (cwV 0 C.hts gL_law_X8_clearText rfl rfl rfl md_X8_clearText ⟨(Nat.le_of_ble_eq_true rfl), (Nat.le_of_ble_eq_true rfl)⟩) (by decide) (mk_11 (by decide)) rfl rfl rfl rfl rfl (Nat.le_of_ble_eq_true rfl) dL_law_486 (Nat.le_of_ble_eq_true rfl) (Nat.le_of_ble_eq_true rfl) ?_
  exact k_cmp C he dL_law_489 (by decide) (kk _ h2)
set_option maxRecDepth 100000 in
set_option maxHeartbeats 4000000 in
theorem k_undo (C : KC p s m b meth c sa D X) (K : KX s (LA s) b L xs) (hj : j + 3 ≤ L) (hL : L ≤ 1536) (h : LR ω ω) (kk : ∀ ω, LR ω ω → LV p l e s m b below meth c D X ad ω (j + 3) 18 []) : LV p l e s m b below meth c D X ad ω j 494 [] := by
  obtain ⟨h1, he, h2⟩ := op2 (a := (f_X7_undo ω)) (b := fun μ => (f_X8_undo μ)) h (fun μ hμ => op_undo hμ)
  refine g_aload_n C dL_law_494 rfl 2 rfl ?_
  refine g_callV (rest := []) (st1 := [.int (f_X7_undo ω).1]) C (c_X7_undo ω (h.hst)) (cwV 0 C.hts gL_law_X7_undo rfl rfl rfl md_X7_undo ⟨(Nat.le_of_ble_eq_true rfl), (Nat.le_of_ble_eq_true rfl)⟩) (by decide) (mk_0 (by decide)) rfl rfl rfl rfl rfl (Nat.le_of_ble_eq_true rfl) dL_law_495 (Nat.le_of_ble_eq_true rfl) (Nat.le_of_ble_eq_true rfl) ?_
  refine g_aload_n C dL_law_498 rfl 1 rfl ?_
  refine g_callV (rest := [.int (f_X7_undo ω).1]) (st1 := [.int (f_X8_undo (f_X7_undo ω).2).1, .int (f_X7_undo ω).1]) C (c_X8_undo (f_X7_undo ω).2 (h1.mi)) (cwV 0 C.hts gL_law_X8_undo rfl rfl rfl md_X8_undo ⟨(Nat.le_of_ble_eq_true rfl), (Nat.le_of_ble_eq_true rfl)⟩) (by decide) (mk_11 (by decide)) rfl rfl rfl rfl rfl (Nat.le_of_ble_eq_true rfl) dL_law_499 (Nat.le_of_ble_eq_true rfl) (Nat.le_of_ble_eq_true rfl) ?_
  exact k_cmp C he dL_law_502 (by decide) (kk _ h2)
set_option maxRecDepth 100000 in
set_option maxHeartbeats 4000000 in
theorem k_keep (C : KC p s m b meth c sa D X) (K : KX s (LA s) b L xs) (hj : j + 3 ≤ L) (hL : L ≤ 1536) (h : LR ω ω) (kk : ∀ ω, LR ω ω → LV p l e s m b below meth c D X ad ω (j + 3) 18 []) : LV p l e s m b below meth c D X ad ω j 507 [] := by
  obtain ⟨h1, he, h2⟩ := op2 (a := (f_X7_keep ω)) (b := fun μ => (f_X8_keep μ)) h (fun μ hμ => op_keep hμ)
  refine g_aload_n C dL_law_507 rfl 2 rfl ?_
  refine g_callV (rest := []) (st1 := [.int (f_X7_keep ω).1]) C (c_X7_keep ω) (cwV 0 C.hts gL_law_X7_keep rfl rfl rfl md_X7_keep ⟨(Nat.le_of_ble_eq_true rfl), (Nat.le_of_ble_eq_true rfl)⟩) (by decide) (mk_0 (by decide)) rfl rfl rfl rfl rfl (Nat.le_of_ble_eq_true rfl) dL_law_508 (Nat.le_of_ble_eq_true rfl) (Nat.le_of_ble_eq_true rfl) ?_
  refine g_aload_n C dL_law_511 rfl 1 rfl ?_
  refine g_callV (rest := [.int (f_X7_keep ω).1]) (st1 := [.int (f_X8_keep (f_X7_keep ω).2).1, .int (f_X7_keep ω).1]) C (c_X8_keep (f_X7_keep ω).2) (cwV 0 C.hts gL_law_X8_keep rfl rfl rfl md_X8_keep ⟨(Nat.le_of_ble_eq_true rfl), (Nat.le_of_ble_eq_true rfl)⟩) (by decide) (mk_11 (by decide)) rfl rfl rfl rfl rfl (Nat.le_of_ble_eq_true rfl) dL_law_512 (Nat.le_of_ble_eq_true rfl) (Nat.le_of_ble_eq_true rfl) ?_
  exact k_cmp C he dL_law_515 (by decide) (kk _ h2)
set_option maxRecDepth 100000 in
set_option maxHeartbeats 4000000 in
theorem k_restore (C : KC p s m b meth c sa D X) (K : KX s (LA s) b L xs) (hj : j + 3 ≤ L) (hL : L ≤ 1536) (h : LR ω ω) (kk : ∀ ω, LR ω ω → LV p l e s m b below meth c D X ad ω (j + 3) 18 []) : LV p l e s m b below meth c D X ad ω j 520 [] := by
  obtain ⟨h1, he, h2⟩ := op2 (a := (f_X7_restore ω)) (b := fun μ => (f_X8_restore μ)) h (fun μ hμ => op_restore hμ)
  refine g_aload_n C dL_law_520 rfl 2 rfl ?_
  refine g_callV (rest := []) (st1 := [.int (f_X7_restore ω).1]) C (c_X7_restore ω (h.hst)) (cwV 0 C.hts gL_law_X7_restore rfl rfl rfl md_X7_restore ⟨(Nat.le_of_ble_eq_true rfl), (Nat.le_of_ble_eq_true rfl)⟩) (by decide) (mk_0 (by decide)) rfl rfl rfl rfl rfl (Nat.le_of_ble_eq_true rfl) dL_law_521 (Nat.le_of_ble_eq_true rfl) (Nat.le_of_ble_eq_true rfl) ?_
  refine g_aload_n C dL_law_524 rfl 1 rfl ?_
  refine g_callV (rest := [.int (f_X7_restore ω).1]) (st1 := [.int (f_X8_restore (f_X7_restore ω).2).1, .int (f_X7_restore ω).1]) C (c_X8_restore (f_X7_restore ω).2 (h1.mi)) (cwV 0 C.hts gL_law_X8_restore rfl rfl rfl md_X8_restore ⟨(Nat.le_of_ble_eq_true rfl), (Nat.le_of_ble_eq_true rfl)⟩) (by decide) (mk_11 (by decide)) rfl rfl rfl rfl rfl (Nat.le_of_ble_eq_true rfl) dL_law_525 (Nat.le_of_ble_eq_true rfl) (Nat.le_of_ble_eq_true rfl) ?_
  exact k_cmp C he dL_law_528 (by decide) (kk _ h2)
end
