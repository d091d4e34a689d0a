section
variable {p : Program} {l : Launch} {e : Env} {s : State} {m : MethodId} {below : List Frame} {meth : Method} {c : Code} {sa : Nat → Nat} {D : va_G} {X : Nat → ClassId} {ad : Nat → Nat} {b L : Nat} {xs : Nat → Int32} {ω : Mem} {j pc : Nat} {rest : List Value}
theorem k_so {ω μ : Mem} (h : LR ω μ) : 1 ≤ (μ 121 0).toInt := by
  obtain ⟨t, -, -, h3, -⟩ := h.1
  have := h3.1
  omega
theorem k_tp {ω μ : Mem} (h : LR ω μ) : (μ 121 0).toInt ≤ 450 := by
  obtain ⟨t, -, -, h3, -⟩ := h.1
  exact h3.2
theorem k_dk {ω μ : Mem} {k : Nat} (h : LR ω μ) (hk : k < 4) : rg (μ 121 (68 + 10 * k + 5)) 1000 := (h.ib hk).2.2.2
set_option maxRecDepth 100000 in
set_option maxHeartbeats 4000000 in
theorem k_burner (C : KC p s m b meth c sa D X) (K : KX s (LA s) b L xs) (hj : j + 3 ≤ L) (hL : L ≤ 1536) (h : LR ω ω) (kk : ∀ ω, LR ω ω → LV p l e s m b below meth c D X ad ω (j + 3) 18 []) : LV p l e s m b below meth c D X ad ω j 533 [] := by
  by_cases hb : xs (j + 1) < 0 ∨ 4 ≤ xs (j + 1)
  · obtain ⟨h1, he, h2⟩ := op2 (a := ((f_X7_burnerB (xs (j + 1)) (xs (j + 2)) ω), ω)) (b := fun μ => (f_X8_burnerB (xs (j + 1)) (xs (j + 2)) μ)) h (fun μ hμ => opB hμ)
    refine g_aload_n C dL_law_533 rfl 2 rfl ?_
    refine k_arg C K (k := 1) (by decide) (by omega) hL rfl dL_law_534 dL_law_535 dL_law_536 dL_law_537 dL_law_538 ?_
    refine k_arg C K (k := 2) (by decide) (by omega) hL rfl dL_law_539 dL_law_540 dL_law_541 dL_law_542 dL_law_543 ?_
    refine g_callV (rest := []) (st1 := [.int (f_X7_burnerB (xs (j + 1)) (xs (j + 2)) ω)]) C (c_X7_burnerB (xs (j + 1)) (xs (j + 2)) hb ω) (cwV 2 C.hts gL_law_X7_burner rfl rfl rfl md_X7_burner ⟨(Nat.le_of_ble_eq_true rfl), (Nat.le_of_ble_eq_true rfl)⟩) (by decide) (mk_0 (by decide)) rfl rfl rfl rfl rfl (Nat.le_of_ble_eq_true rfl) dL_law_544 (Nat.le_of_ble_eq_true rfl) (Nat.le_of_ble_eq_true rfl) ?_
    refine g_aload_n C dL_law_547 rfl 1 rfl ?_
    refine k_arg C K (k := 1) (by decide) (by omega) hL rfl dL_law_548 dL_law_549 dL_law_550 dL_law_551 dL_law_552 ?_
    refine k_arg C K (k := 2) (by decide) (by omega) hL rfl dL_law_553 dL_law_554 dL_law_555 dL_law_556 dL_law_557 ?_
    refine g_callV (rest := [.int (f_X7_burnerB (xs (j + 1)) (xs (j + 2)) ω)]) (st1 := [.int (f_X8_burnerB (xs (j + 1)) (xs (j + 2)) ω).1, .int (f_X7_burnerB (xs (j + 1)) (xs (j + 2)) ω)]) C (c_X8_burnerB (xs (j + 1)) (xs (j + 2)) hb ω) (cwV 2 C.hts gL_law_X8_burner rfl rfl rfl md_X8_burner ⟨(Nat.le_of_ble_eq_true rfl), (Nat.le_of_ble_eq_true rfl)⟩) (by decide) (mk_11 (by decide)) rfl rfl rfl rfl rfl (Nat.le_of_ble_eq_true rfl) dL_law_558 (Nat.le_of_ble_eq_true rfl) (Nat.le_of_ble_eq_true rfl) ?_
    exact k_cmp C he dL_law_561 (by decide) (kk _ h2)
  · obtain ⟨k, hk, e1⟩ := k_burn hb
    obtain ⟨h1, he, h2⟩ := op2 (a := ((f_X7_burner k (xs (j + 2)) ω), ω)) (b := fun μ => (f_X8_burner k (xs (j + 2)) μ)) h (fun μ hμ => op_burner hμ hk)
    refine g_aload_n C dL_law_533 rfl 2 rfl ?_
    refine k_arg C K (k := 1) (by decide) (by omega) hL e1 dL_law_534 dL_law_535 dL_law_536 dL_law_537 dL_law_538 ?_
    refine k_arg C K (k := 2) (by decide) (by omega) hL rfl dL_law_539 dL_law_540 dL_law_541 dL_law_542 dL_law_543 ?_
    refine g_callV (rest := []) (st1 := [.int (f_X7_burner k (xs (j + 2)) ω)]) C (c_X7_burner k (xs (j + 2)) hk ω) (cwV 2 C.hts gL_law_X7_burner rfl rfl rfl md_X7_burner ⟨(Nat.le_of_ble_eq_true rfl), (Nat.le_of_ble_eq_true rfl)⟩) (by decide) (mk_0 (by decide)) rfl rfl rfl rfl rfl (Nat.le_of_ble_eq_true rfl) dL_law_544 (Nat.le_of_ble_eq_true rfl) (Nat.le_of_ble_eq_true rfl) ?_
    refine g_aload_n C dL_law_547 rfl 1 rfl ?_
    refine k_arg C K (k := 1) (by decide) (by omega) hL e1 dL_law_548 dL_law_549 dL_law_550 dL_law_551 dL_law_552 ?_
    refine k_arg C K (k := 2) (by decide) (by omega) hL rfl dL_law_553 dL_law_554 dL_law_555 dL_law_556 dL_law_557 ?_
    refine g_callV (rest := [.int (f_X7_burner k (xs (j + 2)) ω)]) (st1 := [.int (f_X8_burner k (xs (j + 2)) ω).1, .int (f_X7_burner k (xs (j + 2)) ω)]) C (c_X8_burner k (xs (j + 2)) hk ω) (cwV 2 C.hts gL_law_X8_burner rfl rfl rfl md_X8_burner ⟨(Nat.le_of_ble_eq_true rfl), (Nat.le_of_ble_eq_true rfl)⟩) (by decide) (mk_11 (by decide)) rfl rfl rfl rfl rfl (Nat.le_of_ble_eq_true rfl) dL_law_558 (Nat.le_of_ble_eq_true rfl) (Nat.le_of_ble_eq_true rfl) ?_
    exact k_cmp C he dL_law_561 (by decide) (kk _ h2)
set_option maxRecDepth 100000 in
set_option maxHeartbeats 4000000 in
theorem k_staysOpen (C : KC p s m b meth c sa D X) (K : KX s (LA s) b L xs) (hj : j + 3 ≤ L) (hL : L ≤ 1536) (h : LR ω ω) (kk : ∀ ω, LR ω ω → LV p l e s m b below meth c D X ad ω (j + 3) 18 []) : LV p l e s m b below meth c D X ad ω j 566 [] := by
  by_cases hb : xs (j + 1) < 0 ∨ 4 ≤ xs (j + 1)
  · obtain ⟨h1, he, h2⟩ := op2 (a := ((f_X7_staysOpenB (xs (j + 1)) ω), ω)) (b := fun μ => (f_X8_staysOpenB (xs (j + 1)) μ)) h (fun μ hμ => opB hμ)
    refine g_aload_n C dL_law_566 rfl 2 rfl ?_
    refine k_arg C K (k := 1) (by decide) (by omega) hL rfl dL_law_567 dL_law_568 dL_law_569 dL_law_570 dL_law_571 ?_
    refine g_callV (rest := []) (st1 := [.int (f_X7_staysOpenB (xs (j + 1)) ω)]) C (c_X7_staysOpenB (xs (j + 1)) hb ω) (cwV 1 C.hts gL_law_X7_staysOpen rfl rfl rfl md_X7_staysOpen ⟨(Nat.le_of_ble_eq_true rfl), (Nat.le_of_ble_eq_true rfl)⟩) (by decide) (mk_0 (by decide)) rfl rfl rfl rfl rfl (Nat.le_of_ble_eq_true rfl) dL_law_572 (Nat.le_of_ble_eq_true rfl) (Nat.le_of_ble_eq_true rfl) ?_
    refine g_aload_n C dL_law_575 rfl 1 rfl ?_
    refine k_arg C K (k := 1) (by decide) (by omega) hL rfl dL_law_576 dL_law_577 dL_law_578 dL_law_579 dL_law_580 ?_
    refine g_callV (rest := [.int (f_X7_staysOpenB (xs (j + 1)) ω)]) (st1 := [.int (f_X8_staysOpenB (xs (j + 1)) ω).1, .int (f_X7_staysOpenB (xs (j + 1)) ω)]) C (c_X8_staysOpenB (xs (j + 1)) hb ω) (cwV 1 C.hts gL_law_X8_staysOpen rfl rfl rfl md_X8_staysOpen ⟨(Nat.le_of_ble_eq_true rfl), (Nat.le_of_ble_eq_true rfl)⟩) (by decide) (mk_11 (by decide)) rfl rfl rfl rfl rfl (Nat.le_of_ble_eq_true rfl) dL_law_581 (Nat.le_of_ble_eq_true rfl) (Nat.le_of_ble_eq_true rfl) ?_
    exact k_cmp C he dL_law_584 (by decide) (kk _ h2)
  · obtain ⟨k, hk, e1⟩ := k_burn hb
    obtain ⟨h1, he, h2⟩ := op2 (a := ((f_X7_staysOpen k ω), ω)) (b := fun μ => (f_X8_staysOpen k μ)) h (fun μ hμ => op_staysOpen hμ hk)
    refine g_aload_n C dL_law_566 rfl 2 rfl ?_
    refine k_arg C K (k := 1) (by decide) (by omega) hL e1 dL_law_567 dL_law_568 dL_law_569 dL_law_570 dL_law_571 ?_
    refine g_callV (rest := []) (st1 := [.int (f_X7_staysOpen k ω)]) C (c_X7_staysOpen k hk ω) (cwV 1 C.hts gL_law_X7_staysOpen rfl rfl rfl md_X7_staysOpen ⟨(Nat.le_of_ble_eq_true rfl), (Nat.le_of_ble_eq_true rfl)⟩) (by decide) (mk_0 (by decide)) rfl rfl rfl rfl rfl (Nat.le_of_ble_eq_true rfl) dL_law_572 (Nat.le_of_ble_eq_true rfl) (Nat.le_of_ble_eq_true rfl) ?_
    refine g_aload_n C dL_law_575 rfl 1 rfl ?_
    refine k_arg C K (k := 1) (by decide) (by omega) hL e1 dL_law_576 dL_law_577 dL_law_578 dL_law_579 dL_law_580 ?_
    refine g_callV (rest := [.int (f_X7_staysOpen k ω)]) (st1 := [.int (f_X8_staysOpen k ω).1, .int (f_X7_staysOpen k ω)]) C (c_X8_staysOpen k hk ω (k_so h1) (k_dk h1 hk)) (cwV 1 C.hts gL_law_X8_staysOpen rfl rfl rfl md_X8_staysOpen ⟨(Nat.le_of_ble_eq_true rfl), (Nat.le_of_ble_eq_true rfl)⟩) (by decide) (mk_11 (by decide)) rfl rfl rfl rfl rfl (Nat.le_of_ble_eq_true rfl) dL_law_581 (Nat.le_of_ble_eq_true rfl) (Nat.le_of_ble_eq_true rfl) ?_
    exact k_cmp C he dL_law_584 (by decide) (kk _ h2)
set_option maxRecDepth 100000 in
set_option maxHeartbeats 4000000 in
theorem k_toPress (C : KC p s m b meth c sa D X) (K : KX s (LA s) b L xs) (hj : j + 3 ≤ L) (hL : L ≤ 1536) (h : LR ω ω) (kk : ∀ ω, LR ω ω → LV p l e s m b below meth c D X ad ω (j + 3) 18 []) : LV p l e s m b below meth c D X ad ω j 589 [] := by
  by_cases hb : xs (j + 1) < 0 ∨ 4 ≤ xs (j + 1)
  · obtain ⟨h1, he, h2⟩ := op2 (a := ((f_X7_toPressB (xs (j + 1)) (xs (j + 2)) ω), ω)) (b := fun μ => (f_X8_toPressB (xs (j + 1)) (xs (j + 2)) μ)) h (fun μ hμ => opB hμ)
    refine g_aload_n C dL_law_589 rfl 2 rfl ?_
    refine k_arg C K (k := 1) (by decide) (by omega) hL rfl dL_law_590 dL_law_591 dL_law_592 dL_law_593 dL_law_594 ?_
    refine k_arg C K (k := 2) (by decide) (by omega) hL rfl dL_law_595 dL_law_596 dL_law_597 dL_law_598 dL_law_599 ?_
    refine g_callV (rest := []) (st1 := [.int (f_X7_toPressB (xs (j + 1)) (xs (j + 2)) ω)]) C (c_X7_toPressB (xs (j + 1)) (xs (j + 2)) hb ω) (cwV 2 C.hts gL_law_X7_toPress rfl rfl rfl md_X7_toPress ⟨(Nat.le_of_ble_eq_true rfl), (Nat.le_of_ble_eq_true rfl)⟩) (by decide) (mk_0 (by decide)) rfl rfl rfl rfl rfl (Nat.le_of_ble_eq_true rfl) dL_law_600 (Nat.le_of_ble_eq_true rfl) (Nat.le_of_ble_eq_true rfl) ?_
    refine g_aload_n C dL_law_603 rfl 1 rfl ?_
    refine k_arg C K (k := 1) (by decide) (by omega) hL rfl dL_law_604 dL_law_605 dL_law_606 dL_law_607 dL_law_608 ?_
    refine k_arg C K (k := 2) (by decide) (by omega) hL rfl dL_law_609 dL_law_610 dL_law_611 dL_law_612 dL_law_613 ?_
    refine g_callV (rest := [.int (f_X7_toPressB (xs (j + 1)) (xs (j + 2)) ω)]) (st1 := [.int (f_X8_toPressB (xs (j + 1)) (xs (j + 2)) ω).1, .int (f_X7_toPressB (xs (j + 1)) (xs (j + 2)) ω)]) C (c_X8_toPressB (xs (j + 1)) (xs (j + 2)) hb ω) (cwV 2 C.hts gL_law_X8_toPress rfl rfl rfl md_X8_toPress ⟨(Nat.le_of_ble_eq_true rfl), (Nat.le_of_ble_eq_true rfl)⟩) (by decide) (mk_11 (by decide)) rfl rfl rfl rfl rfl (Nat.le_of_ble_eq_true rfl) dL_law_614 (Nat.le_of_ble_eq_true rfl) (Nat.le_of_ble_eq_true rfl) ?_
    exact k_cmp C he dL_law_617 (by decide) (kk _ h2)
  · obtain ⟨k, hk, e1⟩ := k_burn hb
    obtain ⟨h1, he, h2⟩ := op2 (a := ((f_X7_toPress k (xs (j + 2)) ω), ω)) (b := fun μ => (f_X8_toPress k (xs (j + 2)) μ)) h (fun μ hμ => op_toPress hμ hk)
    refine g_aload_n C dL_law_589 rfl 2 rfl ?_
    refine k_arg C K (k := 1) (by decide) (by omega) hL e1 dL_law_590 dL_law_591 dL_law_592 dL_law_593 dL_law_594 ?_
    refine k_arg C K (k := 2) (by decide) (by omega) hL rfl dL_law_595 dL_law_596 dL_law_597 dL_law_598 dL_law_599 ?_
    refine g_callV (rest := []) (st1 := [.int (f_X7_toPress k (xs (j + 2)) ω)]) C (c_X7_toPress k (xs (j + 2)) hk ω) (cwV 2 C.hts gL_law_X7_toPress rfl rfl rfl md_X7_toPress ⟨(Nat.le_of_ble_eq_true rfl), (Nat.le_of_ble_eq_true rfl)⟩) (by decide) (mk_0 (by decide)) rfl rfl rfl rfl rfl (Nat.le_of_ble_eq_true rfl) dL_law_600 (Nat.le_of_ble_eq_true rfl) (Nat.le_of_ble_eq_true rfl) ?_
    refine g_aload_n C dL_law_603 rfl 1 rfl ?_
    refine k_arg C K (k := 1) (by decide) (by omega) hL e1 dL_law_604 dL_law_605 dL_law_606 dL_law_607 dL_law_608 ?_
    refine k_arg C K (k := 2) (by decide) (by omega) hL rfl dL_law_609 dL_law_610 dL_law_611 dL_law_612 dL_law_613 ?_
    refine g_callV (rest := [.int (f_X7_toPress k (xs (j + 2)) ω)]) (st1 := [.int (f_X8_toPress k (xs (j + 2)) ω).1, .int (f_X7_toPress k (xs (j + 2)) ω)]) C (c_X8_toPress k (xs (j + 2)) hk ω (k_tp h1) (k_dk h1 hk)) (cwV 2 C.hts gL_law_X8_toPress rfl rfl rfl md_X8_toPress ⟨(Nat.le_of_ble_eq_true rfl), (Nat.le_of_ble_eq_true rfl)⟩) (by decide) (mk_11 (by decide)) rfl rfl rfl rfl rfl (Nat.le_of_ble_eq_true rfl) dL_law_614 (Nat.le_of_ble_eq_true rfl) (Nat.le_of_ble_eq_true rfl) ?_
    exact k_cmp C he dL_law_617 (by decide) (kk _ h2)
set_option maxRecDepth 100000 in
set_option maxHeartbeats 4000000 in
theorem k_clearIn (C : KC p s m b meth c sa D X) (K : KX s (LA s) b L xs) (hj : j + 3 ≤ L) (hL : L ≤ 1536) (h : LR ω ω) (kk : ∀ ω, LR ω ω → LV p l e s m b below meth c D X ad ω (j + 3) 18 []) : LV p l e s m b below meth c D X ad ω j 622 [] := by
  obtain ⟨h1, he, h2⟩ := op2 (a := (f_X7_clearIn ω)) (b := fun μ => (f_X8_clearIn μ)) h (fun μ hμ => op_clearIn hμ)
  refine g_aload_n C dL_law_622 rfl 2 rfl ?_
  refine g_callV (rest := []) (st1 := [.int (f_X7_clearIn ω).1]) C (c_X7_clearIn ω) (cwV 0 C.hts gL_law_X7_clearIn rfl rfl rfl md_X7_clearIn ⟨(Nat.le_of_ble_eq_true rfl), (Nat.le_of_ble_eq_true rfl)⟩) (by decide) (mk_0 (by decide)) rfl rfl rfl rfl rfl (Nat.le_of_ble_eq_true rfl) dL_law_623 (Nat.le_of_ble_eq_true rfl) (Nat.le_of_ble_eq_true rfl) ?_
  refine g_aload_n C dL_law_626 rfl 1 rfl ?_
  refine g_callV (rest := [.int (f_X7_clearIn ω).1]) (st1 := [.int (f_X8_clearIn (f_X7_clearIn ω).2).1, .int (f_X7_clearIn ω).1]) C (c_X8_clearIn (f_X7_clearIn ω).2 (h1.mi)) (cwV 0 C.hts gL_law_X8_clearIn rfl rfl rfl md_X8_clearIn ⟨(Nat.le_of_ble_eq_true rfl), (Nat.le_of_ble_eq_true rfl)⟩) (by decide) (mk_11 (by decide)) rfl rfl rfl rfl rfl (Nat.le_of_ble_eq_true rfl) dL_law_627 (Nat.le_of_ble_eq_true rfl) (Nat.le_of_ble_eq_true rfl) ?_
  exact k_cmp C he dL_law_630 (by decide) (kk _ h2)
set_option maxRecDepth 100000 in
set_option maxHeartbeats 4000000 in
theorem k_blownIn (C : KC p s m b meth c sa D X) (K : KX s (LA s) b L xs) (hj : j + 3 ≤ L) (hL : L ≤ 1536) (h : LR ω ω) (kk : ∀ ω, LR ω ω → LV p l e s m b below meth c D X ad ω (j + 3) 18 []) : LV p l e s m b below meth c D X ad ω j 635 [] := by
  by_cases hb : xs (j + 1) < 0 ∨ 4 ≤ xs (j + 1)
  · obtain ⟨h1, he, h2⟩ := op2 (a := ((f_X7_blownInB (xs (j + 1)) ω), ω)) (b := fun μ => (f_X8_blownInB (xs (j + 1)) μ)) h (fun μ hμ => opB hμ)
    refine g_aload_n C dL_law_635 rfl 2 rfl ?_
    refine k_arg C K (k := 1) (by decide) (by omega) hL rfl dL_law_636 dL_law_637 dL_law_638 dL_law_639 dL_law_640 ?_
    refine g_callV (rest := []) (st1 := [.int (f_X7_blownInB (xs (j + 1)) ω)]) C (c_X7_blownInB (xs (j + 1)) hb ω) (cwV 1 C.hts gL_law_X7_blownIn rfl rfl rfl md_X7_blownIn ⟨(Nat.le_of_ble_eq_true rfl), (Nat.le_of_ble_eq_true rfl)⟩) (by decide) (mk_0 (by decide)) rfl rfl rfl rfl rfl (Nat.le_of_ble_eq_true rfl) dL_law_641 (Nat.le_of_ble_eq_true rfl) (Nat.le_of_ble_eq_true rfl) ?_
    refine g_aload_n C dL_law_644 rfl 1 rfl ?_
    refine k_arg C K (k := 1) (by decide) (by omega) hL rfl dL_law_645 dL_law_646 dL_law_647 dL_law_648 dL_law_649 ?_
    refine g_callV (rest := [.int (f_X7_blownInB (xs (j + 1)) ω)]) (st1 := [.int (f_X8_blownInB (xs (j + 1)) ω).1, .int (f_X7_blownInB (xs (j + 1)) ω)]) C (c_X8_blownInB (xs (j + 1)) hb ω) (cwV 1 C.hts gL_law_X8_blownIn rfl rfl rfl md_X8_blownIn ⟨(Nat.le_of_ble_eq_true rfl), (Nat.le_of_ble_eq_true rfl)⟩) (by decide) (mk_11 (by decide)) rfl rfl rfl rfl rfl (Nat.le_of_ble_eq_true rfl) dL_law_650 (Nat.le_of_ble_eq_true rfl) (Nat.le_of_ble_eq_true rfl) ?_
    exact k_cmp C he dL_law_653 (by decide) (kk _ h2)
  · obtain ⟨k, hk, e1⟩ := k_burn hb
    obtain ⟨h1, he, h2⟩ := op2 (a := ((f_X7_blownIn k ω), ω)) (b := fun μ => (f_X8_blownIn k μ)) h (fun μ hμ => op_blownIn hμ hk)
    refine g_aload_n C dL_law_635 rfl 2 rfl ?_
    refine k_arg C K (k := 1) (by decide) (by omega) hL e1 dL_law_636 dL_law_637 dL_law_638 dL_law_639 dL_law_640 ?_
    refine g_callV (rest := []) (st1 := [.int (f_X7_blownIn k ω)]) C (c_X7_blownIn k hk ω) (cwV 1 C.hts gL_law_X7_blownIn rfl rfl rfl md_X7_blownIn ⟨(Nat.le_of_ble_eq_true rfl), (Nat.le_of_ble_eq_true rfl)⟩) (by decide) (mk_0 (by decide)) rfl rfl rfl rfl rfl (Nat.le_of_ble_eq_true rfl) dL_law_641 (Nat.le_of_ble_eq_true rfl) (Nat.le_of_ble_eq_true rfl) ?_
    refine g_aload_n C dL_law_644 rfl 1 rfl ?_
    refine k_arg C K (k := 1) (by decide) (by omega) hL e1 dL_law_645 dL_law_646 dL_law_647 dL_law_648 dL_law_649 ?_
    refine g_callV (rest := [.int (f_X7_blownIn k ω)]) (st1 := [.int (f_X8_blownIn k ω).1, .int (f_X7_blownIn k ω)]) C (c_X8_blownIn k hk ω (h1.mi)) (cwV 1 C.hts gL_law_X8_blownIn rfl rfl rfl md_X8_blownIn ⟨(Nat.le_of_ble_eq_true rfl), (Nat.le_of_ble_eq_true rfl)⟩) (by decide) (mk_11 (by decide)) rfl rfl rfl rfl rfl (Nat.le_of_ble_eq_true rfl) dL_law_650 (Nat.le_of_ble_eq_true rfl) (Nat.le_of_ble_eq_true rfl) ?_
    exact k_cmp C he dL_law_653 (by decide) (kk _ h2)
end
