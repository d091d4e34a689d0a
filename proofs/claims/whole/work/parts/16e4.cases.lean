section
variable {p : Program} {l : Launch} {e : Env} {s : State} {m : MethodId} {below : List Frame} {meth : Method} {c : Code} {sa : Nat → Nat} {D : va_G} {X : Nat → ClassId} {ad : Nat → Nat} {b L : Nat} {xs : Nat → Int32} {ω : Mem} {j pc : Nat} {rest : List Value}
set_option maxRecDepth 100000 in
set_option maxHeartbeats 4000000 in
theorem k_entry (C : KC p s m b meth c sa D X) (K : KX s (LA s) b L xs) (hj : j + 3 ≤ L) (hL : L ≤ 1536) (h : LR ω ω) (kk : ∀ ω, LR ω ω → LV p l e s m b below meth c D X ad ω (j + 3) 18 []) : LV p l e s m b below meth c D X ad ω j 658 [] := by
  obtain ⟨h1, he, h2⟩ := op2 (a := ((f_X7_entry (xs (j + 1)) (xs (j + 2)) ω), ω)) (b := fun μ => (f_X8_entry (xs (j + 1)) (xs (j + 2)) μ)) h (fun μ hμ => op_entry hμ)
  refine g_aload_n C dL_law_658 rfl 2 rfl ?_
  refine k_arg C K (k := 1) (by decide) (by omega) hL rfl dL_law_659 dL_law_660 dL_law_661 dL_law_662 dL_law_663 ?_
  refine k_arg C K (k := 2) (by decide) (by omega) hL rfl dL_law_664 dL_law_665 dL_law_666 dL_law_667 dL_law_668 ?_
  refine g_callV (rest := []) (st1 := [.int (f_X7_entry (xs (j + 1)) (xs (j + 2)) ω)]) C (c_X7_entry (xs (j + 1)) (xs (j + 2)) ω) (cwV 2 C.hts gL_law_X7_entry rfl rfl rfl md_X7_entry ⟨(Nat.le_of_ble_eq_true rfl), (Nat.le_of_ble_eq_true rfl)⟩) (by decide) (mk_0 (by decide)) rfl rfl rfl rfl rfl (Nat.le_of_ble_eq_true rfl) dL_law_669 (Nat.le_of_ble_eq_true rfl) (Nat.le_of_ble_eq_true rfl) ?_
  refine g_aload_n C dL_law_672 rfl 1 rfl ?_
  refine k_arg C K (k := 1) (by decide) (by omega) hL rfl dL_law_673 dL_law_674 dL_law_675 dL_law_676 dL_law_677 ?_
  refine k_arg C K (k := 2) (by decide) (by omega) hL rfl dL_law_678 dL_law_679 dL_law_680 dL_law_681 dL_law_682 ?_
  refine g_callV (rest := [.int (f_X7_entry (xs (j + 1)) (xs (j + 2)) ω)]) (st1 := [.int (f_X8_entry (xs (j + 1)) (xs (j + 2)) ω).1, .int (f_X7_entry (xs (j + 1)) (xs (j + 2)) ω)]) C (c_X8_entry (xs (j + 1)) (xs (j + 2)) ω (h1.mi)) (cwV 2 C.hts gL_law_X8_entry rfl rfl rfl md_X8_entry ⟨(Nat.le_of_ble_eq_true rfl), (Nat.le_of_ble_eq_true rfl)⟩) (by decide) (mk_11 (by decide)) rfl rfl rfl rfl rfl (Nat.le_of_ble_eq_true rfl) dL_law_683 (Nat.le_of_ble_eq_true rfl) (Nat.le_of_ble_eq_true rfl) ?_
  exact k_cmp C he dL_law_686 (by decide) (kk _ h2)
set_option maxRecDepth 100000 in
set_option maxHeartbeats 4000000 in
theorem k_event (C : KC p s m b meth c sa D X) (K : KX s (LA s) b L xs) (hj : j + 3 ≤ L) (hL : L ≤ 1536) (h : LR ω ω) (kk : ∀ ω, LR ω ω → LV p l e s m b below meth c D X ad ω (j + 3) 18 []) : LV p l e s m b below meth c D X ad ω j 691 [] := by
  obtain ⟨h1, he, h2⟩ := op2 (a := ((f_X7_event (xs (j + 1)) (xs (j + 2)) ω), ω)) (b := fun μ => (f_X8_event (xs (j + 1)) (xs (j + 2)) μ)) h (fun μ hμ => op_event hμ)
  refine g_aload_n C dL_law_691 rfl 2 rfl ?_
  refine k_arg C K (k := 1) (by decide) (by omega) hL rfl dL_law_692 dL_law_693 dL_law_694 dL_law_695 dL_law_696 ?_
  refine k_arg C K (k := 2) (by decide) (by omega) hL rfl dL_law_697 dL_law_698 dL_law_699 dL_law_700 dL_law_701 ?_
  refine g_callV (rest := []) (st1 := [.int (f_X7_event (xs (j + 1)) (xs (j + 2)) ω)]) C (c_X7_event (xs (j + 1)) (xs (j + 2)) ω) (cwV 2 C.hts gL_law_X7_event rfl rfl rfl md_X7_event ⟨(Nat.le_of_ble_eq_true rfl), (Nat.le_of_ble_eq_true rfl)⟩) (by decide) (mk_0 (by decide)) rfl rfl rfl rfl rfl (Nat.le_of_ble_eq_true rfl) dL_law_702 (Nat.le_of_ble_eq_true rfl) (Nat.le_of_ble_eq_true rfl) ?_
  refine g_aload_n C dL_law_705 rfl 1 rfl ?_
  refine k_arg C K (k := 1) (by decide) (by omega) hL rfl dL_law_706 dL_law_707 dL_law_708 dL_law_709 dL_law_710 ?_
  refine k_arg C K (k := 2) (by decide) (by omega) hL rfl dL_law_711 dL_law_712 dL_law_713 dL_law_714 dL_law_715 ?_
  refine g_callV (rest := [.int (f_X7_event (xs (j + 1)) (xs (j + 2)) ω)]) (st1 := [.int (f_X8_event (xs (j + 1)) (xs (j + 2)) ω).1, .int (f_X7_event (xs (j + 1)) (xs (j + 2)) ω)]) C (c_X8_event (xs (j + 1)) (xs (j + 2)) ω (h1.mi)) (cwV 2 C.hts gL_law_X8_event rfl rfl rfl md_X8_event ⟨(Nat.le_of_ble_eq_true rfl), (Nat.le_of_ble_eq_true rfl)⟩) (by decide) (mk_11 (by decide)) rfl rfl rfl rfl rfl (Nat.le_of_ble_eq_true rfl) dL_law_716 (Nat.le_of_ble_eq_true rfl) (Nat.le_of_ble_eq_true rfl) ?_
  exact k_cmp C he dL_law_719 (by decide) (kk _ h2)
set_option maxRecDepth 100000 in
set_option maxHeartbeats 4000000 in
theorem k_count (C : KC p s m b meth c sa D X) (K : KX s (LA s) b L xs) (hj : j + 3 ≤ L) (hL : L ≤ 1536) (h : LR ω ω) (kk : ∀ ω, LR ω ω → LV p l e s m b below meth c D X ad ω (j + 3) 18 []) : LV p l e s m b below meth c D X ad ω j 724 [] := by
  obtain ⟨h1, he, h2⟩ := op2 (a := ((f_X7_count (xs (j + 1)) ω), ω)) (b := fun μ => (f_X8_count (xs (j + 1)) μ)) h (fun μ hμ => op_count hμ)
  refine g_aload_n C dL_law_724 rfl 2 rfl ?_
  refine k_arg C K (k := 1) (by decide) (by omega) hL rfl dL_law_725 dL_law_726 dL_law_727 dL_law_728 dL_law_729 ?_
  refine g_callV (rest := []) (st1 := [.int (f_X7_count (xs (j + 1)) ω)]) C (c_X7_count (xs (j + 1)) ω) (cwV 1 C.hts gL_law_X7_count rfl rfl rfl md_X7_count ⟨(Nat.le_of_ble_eq_true rfl), (Nat.le_of_ble_eq_true rfl)⟩) (by decide) (mk_0 (by decide)) rfl rfl rfl rfl rfl (Nat.le_of_ble_eq_true rfl) dL_law_730 (Nat.le_of_ble_eq_true rfl) (Nat.le_of_ble_eq_true rfl) ?_
  refine g_aload_n C dL_law_733 rfl 1 rfl ?_
  refine k_arg C K (k := 1) (by decide) (by omega) hL rfl dL_law_734 dL_law_735 dL_law_736 dL_law_737 dL_law_738 ?_
  refine g_callV (rest := [.int (f_X7_count (xs (j + 1)) ω)]) (st1 := [.int (f_X8_count (xs (j + 1)) ω).1, .int (f_X7_count (xs (j + 1)) ω)]) C (c_X8_count (xs (j + 1)) ω (h1.mi)) (cwV 1 C.hts gL_law_X8_count rfl rfl rfl md_X8_count ⟨(Nat.le_of_ble_eq_true rfl), (Nat.le_of_ble_eq_true rfl)⟩) (by decide) (mk_11 (by decide)) rfl rfl rfl rfl rfl (Nat.le_of_ble_eq_true rfl) dL_law_739 (Nat.le_of_ble_eq_true rfl) (Nat.le_of_ble_eq_true rfl) ?_
  exact k_cmp C he dL_law_742 (by decide) (kk _ h2)
set_option maxRecDepth 100000 in
set_option maxHeartbeats 4000000 in
theorem k_setting (C : KC p s m b meth c sa D X) (K : KX s (LA s) b L xs) (hj : j + 3 ≤ L) (hL : L ≤ 1536) (h : LR ω ω) (kk : ∀ ω, LR ω ω → LV p l e s m b below meth c D X ad ω (j + 3) 18 []) : LV p l e s m b below meth c D X ad ω j 747 [] := by
  obtain ⟨h1, he, h2⟩ := op2 (a := ((f_X7_setting (xs (j + 1)) ω), ω)) (b := fun μ => (f_X8_setting (xs (j + 1)) μ)) h (fun μ hμ => op_setting hμ)
  refine g_aload_n C dL_law_747 rfl 2 rfl ?_
  refine k_arg C K (k := 1) (by decide) (by omega) hL rfl dL_law_748 dL_law_749 dL_law_750 dL_law_751 dL_law_752 ?_
  refine g_callV (rest := []) (st1 := [.int (f_X7_setting (xs (j + 1)) ω)]) C (c_X7_setting (xs (j + 1)) ω) (cwV 1 C.hts gL_law_X7_setting rfl rfl rfl md_X7_setting ⟨(Nat.le_of_ble_eq_true rfl), (Nat.le_of_ble_eq_true rfl)⟩) (by decide) (mk_0 (by decide)) rfl rfl rfl rfl rfl (Nat.le_of_ble_eq_true rfl) dL_law_753 (Nat.le_of_ble_eq_true rfl) (Nat.le_of_ble_eq_true rfl) ?_
  refine g_aload_n C dL_law_756 rfl 1 rfl ?_
  refine k_arg C K (k := 1) (by decide) (by omega) hL rfl dL_law_757 dL_law_758 dL_law_759 dL_law_760 dL_law_761 ?_
  refine g_callV (rest := [.int (f_X7_setting (xs (j + 1)) ω)]) (st1 := [.int (f_X8_setting (xs (j + 1)) ω).1, .int (f_X7_setting (xs (j + 1)) ω)]) C (c_X8_setting (xs (j + 1)) ω (h1.mi)) (cwV 1 C.hts gL_law_X8_setting rfl rfl rfl md_X8_setting ⟨(Nat.le_of_ble_eq_true rfl), (Nat.le_of_ble_eq_true rfl)⟩) (by decide) (mk_11 (by decide)) rfl rfl rfl rfl rfl (Nat.le_of_ble_eq_true rfl) dL_law_762 (Nat.le_of_ble_eq_true rfl) (Nat.le_of_ble_eq_true rfl) ?_
  exact k_cmp C he dL_law_765 (by decide) (kk _ h2)
end
