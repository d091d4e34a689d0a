abbrev rm_X7_set : Room := { frames := 5, cells := 0, slots := 0, locals := 103 }
theorem md_X7_set : yX7_set.cls = RX7 ∧ yX7_set.cls ≠ "java/lang/invoke/MethodHandle" ∧ yX7_set.cls ≠ "java/lang/invoke/VarHandle" ∧ (parseMethodDescriptor yX7_set.desc).map (fun d => d.parameters.length) = some 2 := by decide +kernel
def f_X7_set (w : Int32) (v : Int32) (ω : Mem) : Int32 × Mem := (if (f_X4_isOne w ω) = 0 then ((-1), ω) else (if (f_X4_allows w v ω) = 0 then ((-2), ω) else (if (f_X4_valueOf 2 w ω) = v then ((-5), ω) else ((f_X4_valueOf 2 w ω), (f_X4_change 2 w v (f_X1_record 1 ω))))))
set_option maxRecDepth 100000 in
set_option maxHeartbeats 4000000 in
theorem c_X7_set {l_ : Launch} {sa : Nat → Nat} {D : va_G} {X : Nat → ClassId} {ad : Nat → Nat} (w : Int32) (v : Int32) (ω : Mem) (hst : hstP ω) : CT l_ yX7_set wsX7_set rm_X7_set sa D (tyX X) 120 ad (mk X ad ω) [.ref (ad 0), .int w, .int v] (some (.int (f_X7_set w v ω).1) : Option Value) (mk X ad (f_X7_set w v ω).2) := by
  refine ct_of [(0, .ref (ad 0)), (1, .int w), (2, .int v)] (by decide +kernel) rfl rfl (Nat.le_of_ble_eq_true rfl) rfl ?_
  intro p_ e_ s_ m_ args_ below_ meth_ c_ C hret hlk hin
  have e1 : (some (.int (f_X7_set w v ω).1) : Option Value) = (some (.int (f_X7_set w v ω).1) : Option Value) := rfl
  have e2 : mk X ad (f_X7_set w v ω).2 = mk X ad (f_X7_set w v ω).2 := rfl
  have iX5 : ∀ w ∈ u_ws RX5 TX5 8, w ∈ wsX7_set := by decide +kernel
  have iX7 : ∀ w ∈ u_ws RX7 TX7 7, w ∈ wsX7_set := by decide +kernel
  have L10 : Cond.fieldLink RX7 10 (TX7 0).1 (TX7 0).2.1 (TX7 0).2.2.1 ∈ wsX7_set := by decide +kernel
  have L32 : Cond.fieldLink RX7 32 (TX7 4).1 (TX7 4).2.1 (TX7 4).2.2.1 ∈ wsX7_set := by decide +kernel
  have L57 : Cond.fieldLink RX7 57 (TX5 0).1 (TX5 0).2.1 (TX5 0).2.2.1 ∈ wsX7_set := by decide +kernel
  refine g_iload_n C dX7_set_0 rfl 1 rfl ?_
  refine g_callS (rest := []) (st1 := [.int (f_X4_isOne w ω)]) C (c_X4_isOne w ω) (va_cwS 1 C.hts gX7_set_X4_isOne rfl rfl rfl md_X4_isOne.2 ⟨Nat.le_of_ble_eq_true rfl, Nat.le_of_ble_eq_true rfl⟩) rfl rfl rfl (Nat.le_of_ble_eq_true rfl) dX7_set_1 (Nat.zero_le _) (Nat.zero_le _) ?_
  refine g_if_ne (tgt := 9) C dX7_set_4 (by decide) (fun h1 => ?_) (fun h1 => ?_)
  · refine g_iload_n C dX7_set_9 rfl 1 rfl ?_
    refine g_iload_n C dX7_set_10 rfl 2 rfl ?_
    refine g_callS (rest := []) (st1 := [.int (f_X4_allows w v ω)]) C (c_X4_allows w v ω) (va_cwS 2 C.hts gX7_set_X4_allows rfl rfl rfl md_X4_allows.2 ⟨Nat.le_of_ble_eq_true rfl, Nat.le_of_ble_eq_true rfl⟩) rfl rfl rfl (Nat.le_of_ble_eq_true rfl) dX7_set_11 (Nat.zero_le _) (Nat.zero_le _) ?_
    refine g_if_ne (tgt := 20) C dX7_set_14 (by decide) (fun h2 => ?_) (fun h2 => ?_)
    · refine g_aload_n C dX7_set_20 rfl 0 rfl ?_
      refine g_get (v := .ref (ad 1)) C iX7 (by decide) (mk_0 (by decide)) rfl 0 (by decide) L10 rfl dX7_set_21 ?_
      refine g_get (v := .ref (ad 2)) C iX5 (by decide) (mk_1 (by decide)) rfl 0 (by decide) L57 rfl dX7_set_24 ?_
      refine g_iload_n C dX7_set_27 rfl 1 rfl ?_
      refine g_callV (rest := []) (st1 := [.int (f_X4_valueOf 2 w ω)]) C (c_X4_valueOf 2 w (by unfold isSet isR; decide) ω) (cwV 1 C.hts gX7_set_X4_valueOf rfl rfl rfl md_X4_valueOf ⟨Nat.le_of_ble_eq_true rfl, Nat.le_of_ble_eq_true rfl⟩) (by decide) (mk_2 (by decide)) rfl rfl rfl rfl rfl (Nat.le_of_ble_eq_true rfl) dX7_set_28 (Nat.zero_le _) (Nat.zero_le _) ?_
      refine g_istore_n (lv' := [(3, .int (f_X4_valueOf 2 w ω)), (0, .ref (ad 0)), (1, .int w), (2, .int v)]) C dX7_set_31 rfl (by decide) rfl ?_
      refine g_iload_n C dX7_set_32 rfl 0 rfl ?_
      refine g_iload_n C dX7_set_33 rfl 3 rfl ?_
      refine g_icmp_ne (tgt := 40) C dX7_set_34 (by decide) (fun h3 => ?_) (fun h3 => ?_)
      · refine g_aload_n C dX7_set_40 rfl 1 rfl ?_
        refine g_get (v := .ref (ad 52)) C iX7 (by decide) (mk_0 (by decide)) rfl 4 (by decide) L32 rfl dX7_set_41 ?_
        refine g_aload_n C dX7_set_44 rfl 1 rfl ?_
        refine g_get (v := .ref (ad 1)) C iX7 (by decide) (mk_0 (by decide)) rfl 0 (by decide) L10 rfl dX7_set_45 ?_
        refine g_callV (rest := []) (st1 := []) C (c_X1_record 1 isS_1 ω hst) (cwV 1 C.hts gX7_set_X1_record rfl rfl rfl md_X1_record ⟨Nat.le_of_ble_eq_true rfl, Nat.le_of_ble_eq_true rfl⟩) (by decide) (mk_7 (by decide)) rfl rfl rfl rfl rfl (Nat.le_of_ble_eq_true rfl) dX7_set_48 (Nat.zero_le _) (Nat.zero_le _) ?_
        refine g_aload_n C dX7_set_51 rfl 1 rfl ?_
        refine g_get (v := .ref (ad 1)) C iX7 (by decide) (mk_0 (by decide)) rfl 0 (by decide) L10 rfl dX7_set_52 ?_
        refine g_get (v := .ref (ad 2)) C iX5 (by decide) (mk_1 (by decide)) rfl 0 (by decide) L57 rfl dX7_set_55 ?_
        refine g_iload_n C dX7_set_58 rfl 2 rfl ?_
        refine g_iload_n C dX7_set_59 rfl 3 rfl ?_
        refine g_callV (rest := []) (st1 := []) C (c_X4_change 2 w v (by unfold isSet isR; decide) (f_X1_record 1 ω)) (cwV 2 C.hts gX7_set_X4_change rfl rfl rfl md_X4_change ⟨Nat.le_of_ble_eq_true rfl, Nat.le_of_ble_eq_true rfl⟩) (by decide) (mk_2 (by decide)) rfl rfl rfl rfl rfl (Nat.le_of_ble_eq_true rfl) dX7_set_60 (Nat.zero_le _) (Nat.zero_le _) ?_
        refine g_iload_n C dX7_set_63 rfl 0 rfl ?_
        exact g_iret C hret hlk (e1.trans (pr1 (v := (f_X4_valueOf 2 w ω)) (w := (f_X4_change 2 w v (f_X1_record 1 ω))) ((if_neg h1).trans ((if_neg h2).trans ((if_neg h3).trans rfl))))) (e2.trans (pr2 (v := (f_X4_valueOf 2 w ω)) (w := (f_X4_change 2 w v (f_X1_record 1 ω))) ((if_neg h1).trans ((if_neg h2).trans ((if_neg h3).trans rfl))))) dX7_set_64
      · refine g_bipush (v := (-5)) C dX7_set_37 (by decide) ?_
        exact g_iret C hret hlk (e1.trans (pr1 (v := (-5)) (w := ω) ((if_neg h1).trans ((if_neg h2).trans ((if_pos h3).trans rfl))))) (e2.trans (pr2 (v := (-5)) (w := ω) ((if_neg h1).trans ((if_neg h2).trans ((if_pos h3).trans rfl))))) dX7_set_39
    · refine g_bipush (v := (-2)) C dX7_set_17 (by decide) ?_
      exact g_iret C hret hlk (e1.trans (pr1 (v := (-2)) (w := ω) ((if_neg h1).trans ((if_pos h2).trans rfl)))) (e2.trans (pr2 (v := (-2)) (w := ω) ((if_neg h1).trans ((if_pos h2).trans rfl)))) dX7_set_19
  · refine g_iconst (v := (-1)) C dX7_set_7 (by decide) ?_
    exact g_iret C hret hlk (e1.trans (pr1 (v := (-1)) (w := ω) ((if_pos h1).trans rfl))) (e2.trans (pr2 (v := (-1)) (w := ω) ((if_pos h1).trans rfl))) dX7_set_8
abbrev rm_X7_setKind : Room := { frames := 5, cells := 0, slots := 0, locals := 103 }
theorem md_X7_setKind : yX7_setKind.cls = RX7 ∧ yX7_setKind.cls ≠ "java/lang/invoke/MethodHandle" ∧ yX7_setKind.cls ≠ "java/lang/invoke/VarHandle" ∧ (parseMethodDescriptor yX7_setKind.desc).map (fun d => d.parameters.length) = some 2 := by decide +kernel
def f_X7_setKind (k : Nat) (v : Int32) (ω : Mem) : Int32 × Mem := (if (f_X7_isWithin v 0 2 ω) = 0 then ((-2), ω) else (if (ω (5 + k) 1) = 0 then (if (ω (5 + k) 0) = v then ((-5), ω) else ((ω (5 + k) 0), (st (f_X1_record 1 ω) (5 + k) 0 v))) else ((-4), ω)))
set_option maxRecDepth 100000 in
set_option maxHeartbeats 4000000 in
theorem c_X7_setKind {l_ : Launch} {sa : Nat → Nat} {D : va_G} {X : Nat → ClassId} {ad : Nat → Nat} (k : Nat) (v : Int32) (hk : k < 4) (ω : Mem) (hst : hstP ω) : CT l_ yX7_setKind wsX7_setKind rm_X7_setKind sa D (tyX X) 120 ad (mk X ad ω) [.ref (ad 0), .int (nI (k)), .int v] (some (.int (f_X7_setKind k v ω).1) : Option Value) (mk X ad (f_X7_setKind k v ω).2) := by
  refine ct_of [(0, .ref (ad 0)), (1, .int (nI (k))), (2, .int v)] (by decide +kernel) rfl rfl (Nat.le_of_ble_eq_true rfl) rfl ?_
  intro p_ e_ s_ m_ args_ below_ meth_ c_ C hret hlk hin
  have e1 : (some (.int (f_X7_setKind k v ω).1) : Option Value) = (some (.int (f_X7_setKind k v ω).1) : Option Value) := rfl
  have e2 : mk X ad (f_X7_setKind k v ω).2 = mk X ad (f_X7_setKind k v ω).2 := rfl
  have iX0 : ∀ w ∈ u_ws RX0 TX0 10, w ∈ wsX7_setKind := by decide +kernel
  have iX7 : ∀ w ∈ u_ws RX7 TX7 7, w ∈ wsX7_setKind := by decide +kernel
  have L10 : Cond.fieldLink RX7 10 (TX7 0).1 (TX7 0).2.1 (TX7 0).2.2.1 ∈ wsX7_setKind := by decide +kernel
  have L32 : Cond.fieldLink RX7 32 (TX7 4).1 (TX7 4).2.1 (TX7 4).2.2.1 ∈ wsX7_setKind := by decide +kernel
  have L83 : Cond.fieldLink RX7 83 (TX0 1).1 (TX0 1).2.1 (TX0 1).2.2.1 ∈ wsX7_setKind := by decide +kernel
  have L87 : Cond.fieldLink RX7 87 (TX0 0).1 (TX0 0).2.1 (TX0 0).2.2.1 ∈ wsX7_setKind := by decide +kernel
  refine g_aload_n C dX7_setKind_0 rfl 0 rfl ?_
  refine g_get (v := .ref (ad 1)) C iX7 (by decide) (mk_0 (by decide)) rfl 0 (by decide) L10 rfl dX7_setKind_1 ?_
  refine g_iload_n C dX7_setKind_4 rfl 1 rfl ?_
  refine g_callV (rest := []) (st1 := [.ref (ad (5 + k))]) C (c_X5_find 1 k isS_1 (by omega) ω) (cwV 1 C.hts gX7_setKind_X5_find rfl rfl rfl md_X5_find ⟨Nat.le_of_ble_eq_true rfl, Nat.le_of_ble_eq_true rfl⟩) (by decide) (mk_1 (by decide)) rfl rfl rfl rfl rfl (Nat.le_of_ble_eq_true rfl) dX7_setKind_5 (Nat.zero_le _) (Nat.zero_le _) ?_
  refine g_astore_n (lv' := [(3, .ref (ad (5 + k))), (0, .ref (ad 0)), (1, .int (nI (k))), (2, .int v)]) C dX7_setKind_8 rfl (by decide) rfl ?_
  refine g_aload_n C dX7_setKind_9 rfl 0 rfl ?_
  refine g_ifnonnull (tgt := 15) C dX7_setKind_10 (by decide) ?_
  refine g_iload_n C dX7_setKind_15 rfl 3 rfl ?_
  refine g_iconst (v := 0) C dX7_setKind_16 (by decide) ?_
  refine g_iconst (v := 2) C dX7_setKind_17 (by decide) ?_
  refine g_callS (rest := []) (st1 := [.int (f_X7_isWithin v 0 2 ω)]) C (c_X7_isWithin v 0 2 ω) (va_cwS 3 C.hts gX7_setKind_X7_isWithin rfl rfl rfl md_X7_isWithin.2 ⟨Nat.le_of_ble_eq_true rfl, Nat.le_of_ble_eq_true rfl⟩) rfl rfl rfl (Nat.le_of_ble_eq_true rfl) dX7_setKind_18 (Nat.zero_le _) (Nat.zero_le _) ?_
  refine g_if_ne (tgt := 27) C dX7_setKind_21 (by decide) (fun h1 => ?_) (fun h1 => ?_)
  · refine g_aload_n C dX7_setKind_27 rfl 0 rfl ?_
    refine g_get (v := .int (ω (5 + k) 1)) C iX0 ((isS_1.bn (by omega))).1 (mk_4 ((isS_1.bn (by omega))).2) rfl 1 (by decide) L83 rfl dX7_setKind_28 ?_
    refine g_if_eq (tgt := 37) C dX7_setKind_31 (by decide) (fun h2 => ?_) (fun h2 => ?_)
    · refine g_aload_n C dX7_setKind_37 rfl 0 rfl ?_
      refine g_get (v := .int (ω (5 + k) 0)) C iX0 ((isS_1.bn (by omega))).1 (mk_4 ((isS_1.bn (by omega))).2) rfl 0 (by decide) L87 rfl dX7_setKind_38 ?_
      refine g_istore (lv' := [(4, .int (ω (5 + k) 0)), (3, .ref (ad (5 + k))), (0, .ref (ad 0)), (1, .int (nI (k))), (2, .int v)]) C dX7_setKind_41 (by decide) rfl ?_
      refine g_iload C dX7_setKind_43 0 rfl ?_
      refine g_iload_n C dX7_setKind_45 rfl 4 rfl ?_
      refine g_icmp_ne (tgt := 52) C dX7_setKind_46 (by decide) (fun h3 => ?_) (fun h3 => ?_)
      · refine g_aload_n C dX7_setKind_52 rfl 2 rfl ?_
        refine g_get (v := .ref (ad 52)) C iX7 (by decide) (mk_0 (by decide)) rfl 4 (by decide) L32 rfl dX7_setKind_53 ?_
        refine g_aload_n C dX7_setKind_56 rfl 2 rfl ?_
        refine g_get (v := .ref (ad 1)) C iX7 (by decide) (mk_0 (by decide)) rfl 0 (by decide) L10 rfl dX7_setKind_57 ?_
        refine g_callV (rest := []) (st1 := []) C (c_X1_record 1 isS_1 ω hst) (cwV 1 C.hts gX7_setKind_X1_record rfl rfl rfl md_X1_record ⟨Nat.le_of_ble_eq_true rfl, Nat.le_of_ble_eq_true rfl⟩) (by decide) (mk_7 (by decide)) rfl rfl rfl rfl rfl (Nat.le_of_ble_eq_true rfl) dX7_setKind_60 (Nat.zero_le _) (Nat.zero_le _) ?_
        refine g_aload_n C dX7_setKind_63 rfl 1 rfl ?_
        refine g_iload_n C dX7_setKind_64 rfl 4 rfl ?_
        refine g_put C iX0 tyX0 tyX0_ok nmX0 ((isS_1.bn (by omega))).1 (mk_4 ((isS_1.bn (by omega))).2) rfl 0 (by decide) L87 rfl rfl rfl (Nat.le_of_ble_eq_true rfl) dX7_setKind_65 ?_
        refine gv_eqG (mkp_4_0 ((isS_1.bn (by omega))).2) ?_
        refine g_iload C dX7_setKind_68 0 rfl ?_
        exact g_iret C hret hlk (e1.trans (pr1 (v := (ω (5 + k) 0)) (w := (st (f_X1_record 1 ω) (5 + k) 0 v)) ((if_neg h1).trans ((if_pos h2).trans ((if_neg h3).trans rfl))))) (e2.trans (pr2 (v := (ω (5 + k) 0)) (w := (st (f_X1_record 1 ω) (5 + k) 0 v)) ((if_neg h1).trans ((if_pos h2).trans ((if_neg h3).trans rfl))))) dX7_setKind_70
      · refine g_bipush (v := (-5)) C dX7_setKind_49 (by decide) ?_
        exact g_iret C hret hlk (e1.trans (pr1 (v := (-5)) (w := ω) ((if_neg h1).trans ((if_pos h2).trans ((if_pos h3).trans rfl))))) (e2.trans (pr2 (v := (-5)) (w := ω) ((if_neg h1).trans ((if_pos h2).trans ((if_pos h3).trans rfl))))) dX7_setKind_51
    · refine g_bipush (v := (-4)) C dX7_setKind_34 (by decide) ?_
      exact g_iret C hret hlk (e1.trans (pr1 (v := (-4)) (w := ω) ((if_neg h1).trans ((if_neg h2).trans rfl)))) (e2.trans (pr2 (v := (-4)) (w := ω) ((if_neg h1).trans ((if_neg h2).trans rfl)))) dX7_setKind_36
  · refine g_bipush (v := (-2)) C dX7_setKind_24 (by decide) ?_
    exact g_iret C hret hlk (e1.trans (pr1 (v := (-2)) (w := ω) ((if_pos h1).trans rfl))) (e2.trans (pr2 (v := (-2)) (w := ω) ((if_pos h1).trans rfl))) dX7_setKind_26
def f_X7_setKindB (x : Int32) (v : Int32) (ω : Mem) : Int32 := (-1)
set_option maxRecDepth 100000 in
set_option maxHeartbeats 4000000 in
theorem c_X7_setKindB {l_ : Launch} {sa : Nat → Nat} {D : va_G} {X : Nat → ClassId} {ad : Nat → Nat} (x : Int32) (v : Int32) (hbad : x < 0 ∨ 4 ≤ x) (ω : Mem)  : CT l_ yX7_setKind wsX7_setKind rm_X7_setKind sa D (tyX X) 120 ad (mk X ad ω) [.ref (ad 0), .int x, .int v] (some (.int (f_X7_setKindB x v ω)) : Option Value) (mk X ad ω) := by
  refine ct_of [(0, .ref (ad 0)), (1, .int x), (2, .int v)] (by decide +kernel) rfl rfl (Nat.le_of_ble_eq_true rfl) rfl ?_
  intro p_ e_ s_ m_ args_ below_ meth_ c_ C hret hlk hin
  have e1 : (some (.int (f_X7_setKindB x v ω)) : Option Value) = (some (.int (f_X7_setKindB x v ω)) : Option Value) := rfl
  have e2 : mk X ad ω = mk X ad ω := rfl
  have iX7 : ∀ w ∈ u_ws RX7 TX7 7, w ∈ wsX7_setKind := by decide +kernel
  have L10 : Cond.fieldLink RX7 10 (TX7 0).1 (TX7 0).2.1 (TX7 0).2.2.1 ∈ wsX7_setKind := by decide +kernel
  refine g_aload_n C dX7_setKind_0 rfl 0 rfl ?_
  refine g_get (v := .ref (ad 1)) C iX7 (by decide) (mk_0 (by decide)) rfl 0 (by decide) L10 rfl dX7_setKind_1 ?_
  refine g_iload_n C dX7_setKind_4 rfl 1 rfl ?_
  refine g_callV (rest := []) (st1 := [.null]) C (c_X5_findB 1 x isS_1 hbad ω) (cwV 1 C.hts gX7_setKind_X5_find rfl rfl rfl md_X5_find ⟨Nat.le_of_ble_eq_true rfl, Nat.le_of_ble_eq_true rfl⟩) (by decide) (mk_1 (by decide)) rfl rfl rfl rfl rfl (Nat.le_of_ble_eq_true rfl) dX7_setKind_5 (Nat.zero_le _) (Nat.zero_le _) ?_
  refine g_astoreN_n (lv' := [(3, .null), (0, .ref (ad 0)), (1, .int x), (2, .int v)]) C dX7_setKind_8 rfl (by decide) rfl ?_
  refine g_aloadN_n C dX7_setKind_9 rfl 0 rfl ?_
  refine g_ifnonnullN C dX7_setKind_10 ?_
  refine g_iconst (v := (-1)) C dX7_setKind_13 (by decide) ?_
  exact g_iret C hret hlk (e1.trans (congrArg (fun z => some (Value.int z)) rfl)) e2 dX7_setKind_14
abbrev rm_X7_plan : Room := { frames := 5, cells := 0, slots := 0, locals := 103 }
theorem md_X7_plan : yX7_plan.cls = RX7 ∧ yX7_plan.cls ≠ "java/lang/invoke/MethodHandle" ∧ yX7_plan.cls ≠ "java/lang/invoke/VarHandle" ∧ (parseMethodDescriptor yX7_plan.desc).map (fun d => d.parameters.length) = some 2 := by decide +kernel
def f_X7_plan (t : Int32) (d : Int32) (ω : Mem) : Int32 × Mem := (if (f_X7_isWithin t 0 9999 ω) = 0 then ((-2), ω) else (if (f_X7_isWithin d 0 9 ω) = 0 then ((-2), ω) else (if (f_X3_hasRoomFor 9 t ω) = 0 then ((-3), ω) else (if (f_X3_holds 9 t d ω) = 0 then (((f_X3_put 9 t d (f_X1_record 1 ω)).2 9 2), (f_X3_put 9 t d (f_X1_record 1 ω)).2) else ((-5), ω)))))
set_option maxRecDepth 100000 in
set_option maxHeartbeats 4000000 in
theorem c_X7_plan {l_ : Launch} {sa : Nat → Nat} {D : va_G} {X : Nat → ClassId} {ad : Nat → Nat} (t : Int32) (d : Int32) (ω : Mem) (hst : hstP ω) : CT l_ yX7_plan wsX7_plan rm_X7_plan sa D (tyX X) 120 ad (mk X ad ω) [.ref (ad 0), .int t, .int d] (some (.int (f_X7_plan t d ω).1) : Option Value) (mk X ad (f_X7_plan t d ω).2) := by
  refine ct_of [(0, .ref (ad 0)), (1, .int t), (2, .int d)] (by decide +kernel) rfl rfl (Nat.le_of_ble_eq_true rfl) rfl ?_
  intro p_ e_ s_ m_ args_ below_ meth_ c_ C hret hlk hin
  have e1 : (some (.int (f_X7_plan t d ω).1) : Option Value) = (some (.int (f_X7_plan t d ω).1) : Option Value) := rfl
  have e2 : mk X ad (f_X7_plan t d ω).2 = mk X ad (f_X7_plan t d ω).2 := rfl
  have iX3 : ∀ w ∈ u_ws RX3 TX3 3, w ∈ wsX7_plan := by decide +kernel
  have iX5 : ∀ w ∈ u_ws RX5 TX5 8, w ∈ wsX7_plan := by decide +kernel
  have iX7 : ∀ w ∈ u_ws RX7 TX7 7, w ∈ wsX7_plan := by decide +kernel
  have L10 : Cond.fieldLink RX7 10 (TX7 0).1 (TX7 0).2.1 (TX7 0).2.2.1 ∈ wsX7_plan := by decide +kernel
  have L102 : Cond.fieldLink RX7 102 (TX3 2).1 (TX3 2).2.1 (TX3 2).2.2.1 ∈ wsX7_plan := by decide +kernel
  have L32 : Cond.fieldLink RX7 32 (TX7 4).1 (TX7 4).2.1 (TX7 4).2.2.1 ∈ wsX7_plan := by decide +kernel
  have L90 : Cond.fieldLink RX7 90 (TX5 2).1 (TX5 2).2.1 (TX5 2).2.2.1 ∈ wsX7_plan := by decide +kernel
  refine g_iload_n C dX7_plan_0 rfl 1 rfl ?_
  refine g_iconst (v := 0) C dX7_plan_1 (by decide) ?_
  refine g_sipush (v := 9999) C dX7_plan_2 (by decide) ?_
  refine g_callS (rest := []) (st1 := [.int (f_X7_isWithin t 0 9999 ω)]) C (c_X7_isWithin t 0 9999 ω) (va_cwS 3 C.hts gX7_plan_X7_isWithin rfl rfl rfl md_X7_isWithin.2 ⟨Nat.le_of_ble_eq_true rfl, Nat.le_of_ble_eq_true rfl⟩) rfl rfl rfl (Nat.le_of_ble_eq_true rfl) dX7_plan_5 (Nat.zero_le _) (Nat.zero_le _) ?_
  refine g_if_eq (tgt := 21) C dX7_plan_8 (by decide) (fun h1 => ?_) (fun h1 => ?_)
  · refine g_bipush (v := (-2)) C dX7_plan_21 (by decide) ?_
    exact g_iret C hret hlk (e1.trans (pr1 (v := (-2)) (w := ω) ((if_pos h1).trans rfl))) (e2.trans (pr2 (v := (-2)) (w := ω) ((if_pos h1).trans rfl))) dX7_plan_23
  · refine g_iload_n C dX7_plan_11 rfl 2 rfl ?_
    refine g_iconst (v := 0) C dX7_plan_12 (by decide) ?_
    refine g_bipush (v := 9) C dX7_plan_13 (by decide) ?_
    refine g_callS (rest := []) (st1 := [.int (f_X7_isWithin d 0 9 ω)]) C (c_X7_isWithin d 0 9 ω) (va_cwS 3 C.hts gX7_plan_X7_isWithin rfl rfl rfl md_X7_isWithin.2 ⟨Nat.le_of_ble_eq_true rfl, Nat.le_of_ble_eq_true rfl⟩) rfl rfl rfl (Nat.le_of_ble_eq_true rfl) dX7_plan_15 (Nat.zero_le _) (Nat.zero_le _) ?_
    refine g_if_ne (tgt := 24) C dX7_plan_18 (by decide) (fun h2 => ?_) (fun h2 => ?_)
    · refine g_aload_n C dX7_plan_24 rfl 0 rfl ?_
      refine g_get (v := .ref (ad 1)) C iX7 (by decide) (mk_0 (by decide)) rfl 0 (by decide) L10 rfl dX7_plan_25 ?_
      refine g_get (v := .ref (ad 9)) C iX5 (by decide) (mk_1 (by decide)) rfl 2 (by decide) L90 rfl dX7_plan_28 ?_
      refine g_iload_n C dX7_plan_31 rfl 1 rfl ?_
      refine g_callV (rest := []) (st1 := [.int (f_X3_hasRoomFor 9 t ω)]) C (c_X3_hasRoomFor 9 t (by unfold isPl isR; decide) ω) (cwV 1 C.hts gX7_plan_X3_hasRoomFor rfl rfl rfl md_X3_hasRoomFor ⟨Nat.le_of_ble_eq_true rfl, Nat.le_of_ble_eq_true rfl⟩) (by decide) (mk_5 (by decide)) rfl rfl rfl rfl rfl (Nat.le_of_ble_eq_true rfl) dX7_plan_32 (Nat.zero_le _) (Nat.zero_le _) ?_
      refine g_if_ne (tgt := 41) C dX7_plan_35 (by decide) (fun h3 => ?_) (fun h3 => ?_)
      · refine g_aload_n C dX7_plan_41 rfl 0 rfl ?_
        refine g_get (v := .ref (ad 1)) C iX7 (by decide) (mk_0 (by decide)) rfl 0 (by decide) L10 rfl dX7_plan_42 ?_
        refine g_get (v := .ref (ad 9)) C iX5 (by decide) (mk_1 (by decide)) rfl 2 (by decide) L90 rfl dX7_plan_45 ?_
        refine g_iload_n C dX7_plan_48 rfl 1 rfl ?_
        refine g_iload_n C dX7_plan_49 rfl 2 rfl ?_
        refine g_callV (rest := []) (st1 := [.int (f_X3_holds 9 t d ω)]) C (c_X3_holds 9 t d (by unfold isPl isR; decide) ω) (cwV 2 C.hts gX7_plan_X3_holds rfl rfl rfl md_X3_holds ⟨Nat.le_of_ble_eq_true rfl, Nat.le_of_ble_eq_true rfl⟩) (by decide) (mk_5 (by decide)) rfl rfl rfl rfl rfl (Nat.le_of_ble_eq_true rfl) dX7_plan_50 (Nat.zero_le _) (Nat.zero_le _) ?_
        refine g_if_eq (tgt := 59) C dX7_plan_53 (by decide) (fun h4 => ?_) (fun h4 => ?_)
        · refine g_aload_n C dX7_plan_59 rfl 0 rfl ?_
          refine g_get (v := .ref (ad 52)) C iX7 (by decide) (mk_0 (by decide)) rfl 4 (by decide) L32 rfl dX7_plan_60 ?_
          refine g_aload_n C dX7_plan_63 rfl 0 rfl ?_
          refine g_get (v := .ref (ad 1)) C iX7 (by decide) (mk_0 (by decide)) rfl 0 (by decide) L10 rfl dX7_plan_64 ?_
          refine g_callV (rest := []) (st1 := []) C (c_X1_record 1 isS_1 ω hst) (cwV 1 C.hts gX7_plan_X1_record rfl rfl rfl md_X1_record ⟨Nat.le_of_ble_eq_true rfl, Nat.le_of_ble_eq_true rfl⟩) (by decide) (mk_7 (by decide)) rfl rfl rfl rfl rfl (Nat.le_of_ble_eq_true rfl) dX7_plan_67 (Nat.zero_le _) (Nat.zero_le _) ?_
          refine g_aload_n C dX7_plan_70 rfl 0 rfl ?_
          refine g_get (v := .ref (ad 1)) C iX7 (by decide) (mk_0 (by decide)) rfl 0 (by decide) L10 rfl dX7_plan_71 ?_
          refine g_get (v := .ref (ad 9)) C iX5 (by decide) (mk_1 (by decide)) rfl 2 (by decide) L90 rfl dX7_plan_74 ?_
          refine g_iload_n C dX7_plan_77 rfl 1 rfl ?_
          refine g_iload_n C dX7_plan_78 rfl 2 rfl ?_
          refine g_callV (rest := []) (st1 := [.int (f_X3_put 9 t d (f_X1_record 1 ω)).1]) C (c_X3_put 9 t d (by unfold isPl isR; decide) (f_X1_record 1 ω)) (cwV 2 C.hts gX7_plan_X3_put rfl rfl rfl md_X3_put ⟨Nat.le_of_ble_eq_true rfl, Nat.le_of_ble_eq_true rfl⟩) (by decide) (mk_5 (by decide)) rfl rfl rfl rfl rfl (Nat.le_of_ble_eq_true rfl) dX7_plan_79 (Nat.zero_le _) (Nat.zero_le _) ?_
          refine g_pop C dX7_plan_82 rfl ?_
          refine g_aload_n C dX7_plan_83 rfl 0 rfl ?_
          refine g_get (v := .ref (ad 1)) C iX7 (by decide) (mk_0 (by decide)) rfl 0 (by decide) L10 rfl dX7_plan_84 ?_
          refine g_get (v := .ref (ad 9)) C iX5 (by decide) (mk_1 (by decide)) rfl 2 (by decide) L90 rfl dX7_plan_87 ?_
          refine g_get (v := .int ((f_X3_put 9 t d (f_X1_record 1 ω)).2 9 2)) C iX3 (by decide) (mk_5 (by decide)) rfl 2 (by decide) L102 rfl dX7_plan_90 ?_
          exact g_iret C hret hlk (e1.trans (pr1 (v := ((f_X3_put 9 t d (f_X1_record 1 ω)).2 9 2)) (w := (f_X3_put 9 t d (f_X1_record 1 ω)).2) ((if_neg h1).trans ((if_neg h2).trans ((if_neg h3).trans ((if_pos h4).trans rfl)))))) (e2.trans (pr2 (v := ((f_X3_put 9 t d (f_X1_record 1 ω)).2 9 2)) (w := (f_X3_put 9 t d (f_X1_record 1 ω)).2) ((if_neg h1).trans ((if_neg h2).trans ((if_neg h3).trans ((if_pos h4).trans rfl)))))) dX7_plan_93
        · refine g_bipush (v := (-5)) C dX7_plan_56 (by decide) ?_
          exact g_iret C hret hlk (e1.trans (pr1 (v := (-5)) (w := ω) ((if_neg h1).trans ((if_neg h2).trans ((if_neg h3).trans ((if_neg h4).trans rfl)))))) (e2.trans (pr2 (v := (-5)) (w := ω) ((if_neg h1).trans ((if_neg h2).trans ((if_neg h3).trans ((if_neg h4).trans rfl)))))) dX7_plan_58
      · refine g_bipush (v := (-3)) C dX7_plan_38 (by decide) ?_
        exact g_iret C hret hlk (e1.trans (pr1 (v := (-3)) (w := ω) ((if_neg h1).trans ((if_neg h2).trans ((if_pos h3).trans rfl))))) (e2.trans (pr2 (v := (-3)) (w := ω) ((if_neg h1).trans ((if_neg h2).trans ((if_pos h3).trans rfl))))) dX7_plan_40
    · refine g_bipush (v := (-2)) C dX7_plan_21 (by decide) ?_
      exact g_iret C hret hlk (e1.trans (pr1 (v := (-2)) (w := ω) ((if_neg h1).trans ((if_pos h2).trans rfl)))) (e2.trans (pr2 (v := (-2)) (w := ω) ((if_neg h1).trans ((if_pos h2).trans rfl)))) dX7_plan_23
def f_X7_readPlan  (ω : Mem) : Int32 × Mem := (if (f_X6_fault ω) = (-1) then (if (f_X6_readInto 49 ω).1 = 0 then ((-3), (f_X6_readInto 49 ω).2) else (((f_X3_copyFrom 9 49 (f_X1_record 1 (f_X6_readInto 49 ω).2)) 9 2), (f_X3_copyFrom 9 49 (f_X1_record 1 (f_X6_readInto 49 ω).2)))) else (((-100) - (f_X6_fault ω)), ω))
abbrev rm_X7_turn : Room := { frames := 5, cells := 0, slots := 0, locals := 103 }
theorem md_X7_turn : yX7_turn.cls = RX7 ∧ yX7_turn.cls ≠ "java/lang/invoke/MethodHandle" ∧ yX7_turn.cls ≠ "java/lang/invoke/VarHandle" ∧ (parseMethodDescriptor yX7_turn.desc).map (fun d => d.parameters.length) = some 2 := by decide +kernel
def f_X7_turn (k : Nat) (v : Int32) (ω : Mem) : Int32 × Mem := (if (f_X7_isWithin v 0 2 ω) = 0 then ((-2), ω) else (if (ω (5 + k) 1) = v then ((-5), ω) else (if v = 0 then ((ω (5 + k) 1), (st (st (f_X1_record 1 ω) (5 + k) 1 v) (5 + k) 4 0)) else ((ω (5 + k) 1), (st (f_X1_record 1 ω) (5 + k) 1 v)))))
set_option maxRecDepth 100000 in
set_option maxHeartbeats 4000000 in
theorem c_X7_turn {l_ : Launch} {sa : Nat → Nat} {D : va_G} {X : Nat → ClassId} {ad : Nat → Nat} (k : Nat) (v : Int32) (hk : k < 4) (ω : Mem) (hst : hstP ω) : CT l_ yX7_turn wsX7_turn rm_X7_turn sa D (tyX X) 120 ad (mk X ad ω) [.ref (ad 0), .int (nI (k)), .int v] (some (.int (f_X7_turn k v ω).1) : Option Value) (mk X ad (f_X7_turn k v ω).2) := by
  refine ct_of [(0, .ref (ad 0)), (1, .int (nI (k))), (2, .int v)] (by decide +kernel) rfl rfl (Nat.le_of_ble_eq_true rfl) rfl ?_
  intro p_ e_ s_ m_ args_ below_ meth_ c_ C hret hlk hin
  have e1 : (some (.int (f_X7_turn k v ω).1) : Option Value) = (some (.int (f_X7_turn k v ω).1) : Option Value) := rfl
  have e2 : mk X ad (f_X7_turn k v ω).2 = mk X ad (f_X7_turn k v ω).2 := rfl
  have iX0 : ∀ w ∈ u_ws RX0 TX0 10, w ∈ wsX7_turn := by decide +kernel
  have iX7 : ∀ w ∈ u_ws RX7 TX7 7, w ∈ wsX7_turn := by decide +kernel
  have L10 : Cond.fieldLink RX7 10 (TX7 0).1 (TX7 0).2.1 (TX7 0).2.2.1 ∈ wsX7_turn := by decide +kernel
  have L117 : Cond.fieldLink RX7 117 (TX0 4).1 (TX0 4).2.1 (TX0 4).2.2.1 ∈ wsX7_turn := by decide +kernel
  have L32 : Cond.fieldLink RX7 32 (TX7 4).1 (TX7 4).2.1 (TX7 4).2.2.1 ∈ wsX7_turn := by decide +kernel
  have L83 : Cond.fieldLink RX7 83 (TX0 1).1 (TX0 1).2.1 (TX0 1).2.2.1 ∈ wsX7_turn := by decide +kernel
  refine g_aload_n C dX7_turn_0 rfl 0 rfl ?_
  refine g_get (v := .ref (ad 1)) C iX7 (by decide) (mk_0 (by decide)) rfl 0 (by decide) L10 rfl dX7_turn_1 ?_
  refine g_iload_n C dX7_turn_4 rfl 1 rfl ?_
  refine g_callV (rest := []) (st1 := [.ref (ad (5 + k))]) C (c_X5_find 1 k isS_1 (by omega) ω) (cwV 1 C.hts gX7_turn_X5_find rfl rfl rfl md_X5_find ⟨Nat.le_of_ble_eq_true rfl, Nat.le_of_ble_eq_true rfl⟩) (by decide) (mk_1 (by decide)) rfl rfl rfl rfl rfl (Nat.le_of_ble_eq_true rfl) dX7_turn_5 (Nat.zero_le _) (Nat.zero_le _) ?_
  refine g_astore_n (lv' := [(3, .ref (ad (5 + k))), (0, .ref (ad 0)), (1, .int (nI (k))), (2, .int v)]) C dX7_turn_8 rfl (by decide) rfl ?_
  refine g_aload_n C dX7_turn_9 rfl 0 rfl ?_
  refine g_ifnonnull (tgt := 15) C dX7_turn_10 (by decide) ?_
  refine g_iload_n C dX7_turn_15 rfl 3 rfl ?_
  refine g_iconst (v := 0) C dX7_turn_16 (by decide) ?_
  refine g_iconst (v := 2) C dX7_turn_17 (by decide) ?_
  refine g_callS (rest := []) (st1 := [.int (f_X7_isWithin v 0 2 ω)]) C (c_X7_isWithin v 0 2 ω) (va_cwS 3 C.hts gX7_turn_X7_isWithin rfl rfl rfl md_X7_isWithin.2 ⟨Nat.le_of_ble_eq_true rfl, Nat.le_of_ble_eq_true rfl⟩) rfl rfl rfl (Nat.le_of_ble_eq_true rfl) dX7_turn_18 (Nat.zero_le _) (Nat.zero_le _) ?_
  refine g_if_ne (tgt := 27) C dX7_turn_21 (by decide) (fun h1 => ?_) (fun h1 => ?_)
  · refine g_aload_n C dX7_turn_27 rfl 0 rfl ?_
    refine g_get (v := .int (ω (5 + k) 1)) C iX0 ((isS_1.bn (by omega))).1 (mk_4 ((isS_1.bn (by omega))).2) rfl 1 (by decide) L83 rfl dX7_turn_28 ?_
    refine g_istore (lv' := [(4, .int (ω (5 + k) 1)), (3, .ref (ad (5 + k))), (0, .ref (ad 0)), (1, .int (nI (k))), (2, .int v)]) C dX7_turn_31 (by decide) rfl ?_
    refine g_iload C dX7_turn_33 0 rfl ?_
    refine g_iload_n C dX7_turn_35 rfl 4 rfl ?_
    refine g_icmp_ne (tgt := 42) C dX7_turn_36 (by decide) (fun h2 => ?_) (fun h2 => ?_)
    · refine g_aload_n C dX7_turn_42 rfl 2 rfl ?_
      refine g_get (v := .ref (ad 52)) C iX7 (by decide) (mk_0 (by decide)) rfl 4 (by decide) L32 rfl dX7_turn_43 ?_
      refine g_aload_n C dX7_turn_46 rfl 2 rfl ?_
      refine g_get (v := .ref (ad 1)) C iX7 (by decide) (mk_0 (by decide)) rfl 0 (by decide) L10 rfl dX7_turn_47 ?_
      refine g_callV (rest := []) (st1 := []) C (c_X1_record 1 isS_1 ω hst) (cwV 1 C.hts gX7_turn_X1_record rfl rfl rfl md_X1_record ⟨Nat.le_of_ble_eq_true rfl, Nat.le_of_ble_eq_true rfl⟩) (by decide) (mk_7 (by decide)) rfl rfl rfl rfl rfl (Nat.le_of_ble_eq_true rfl) dX7_turn_50 (Nat.zero_le _) (Nat.zero_le _) ?_
      refine g_aload_n C dX7_turn_53 rfl 1 rfl ?_
      refine g_iload_n C dX7_turn_54 rfl 4 rfl ?_
      refine g_put C iX0 tyX0 tyX0_ok nmX0 ((isS_1.bn (by omega))).1 (mk_4 ((isS_1.bn (by omega))).2) rfl 1 (by decide) L83 rfl rfl rfl (Nat.le_of_ble_eq_true rfl) dX7_turn_55 ?_
      refine gv_eqG (mkp_4_1 ((isS_1.bn (by omega))).2) ?_
      refine g_iload_n C dX7_turn_58 rfl 4 rfl ?_
      refine g_if_ne (tgt := 67) C dX7_turn_59 (by decide) (fun h3 => ?_) (fun h3 => ?_)
      · refine g_iload C dX7_turn_67 0 rfl ?_
        exact g_iret C hret hlk (e1.trans (pr1 (v := (ω (5 + k) 1)) (w := (st (f_X1_record 1 ω) (5 + k) 1 v)) ((if_neg h1).trans ((if_neg h2).trans ((if_neg h3).trans rfl))))) (e2.trans (pr2 (v := (ω (5 + k) 1)) (w := (st (f_X1_record 1 ω) (5 + k) 1 v)) ((if_neg h1).trans ((if_neg h2).trans ((if_neg h3).trans rfl))))) dX7_turn_69
      · refine g_aload_n C dX7_turn_62 rfl 1 rfl ?_
        refine g_iconst (v := 0) C dX7_turn_63 (by decide) ?_
        refine g_put C iX0 tyX0 tyX0_ok nmX0 ((isS_1.bn (by omega))).1 (mk_4 ((isS_1.bn (by omega))).2) rfl 4 (by decide) L117 rfl (nar_b (by decide)).1 (nar_b (by decide)).2 (Nat.le_of_ble_eq_true rfl) dX7_turn_64 ?_
        refine gv_eqG (mkp_4_4 ((isS_1.bn (by omega))).2 (by decide)) ?_
        refine g_iload C dX7_turn_67 0 rfl ?_
        exact g_iret C hret hlk (e1.trans (pr1 (v := (ω (5 + k) 1)) (w := (st (st (f_X1_record 1 ω) (5 + k) 1 v) (5 + k) 4 0)) ((if_neg h1).trans ((if_neg h2).trans ((if_pos h3).trans rfl))))) (e2.trans (pr2 (v := (ω (5 + k) 1)) (w := (st (st (f_X1_record 1 ω) (5 + k) 1 v) (5 + k) 4 0)) ((if_neg h1).trans ((if_neg h2).trans ((if_pos h3).trans rfl))))) dX7_turn_69
    · refine g_bipush (v := (-5)) C dX7_turn_39 (by decide) ?_
      exact g_iret C hret hlk (e1.trans (pr1 (v := (-5)) (w := ω) ((if_neg h1).trans ((if_pos h2).trans rfl)))) (e2.trans (pr2 (v := (-5)) (w := ω) ((if_neg h1).trans ((if_pos h2).trans rfl)))) dX7_turn_41
  · refine g_bipush (v := (-2)) C dX7_turn_24 (by decide) ?_
    exact g_iret C hret hlk (e1.trans (pr1 (v := (-2)) (w := ω) ((if_pos h1).trans rfl))) (e2.trans (pr2 (v := (-2)) (w := ω) ((if_pos h1).trans rfl))) dX7_turn_26
def f_X7_turnB (x : Int32) (v : Int32) (ω : Mem) : Int32 := (-1)
set_option maxRecDepth 100000 in
set_option maxHeartbeats 4000000 in
theorem c_X7_turnB {l_ : Launch} {sa : Nat → Nat} {D : va_G} {X : Nat → ClassId} {ad : Nat → Nat} (x : Int32) (v : Int32) (hbad : x < 0 ∨ 4 ≤ x) (ω : Mem)  : CT l_ yX7_turn wsX7_turn rm_X7_turn sa D (tyX X) 120 ad (mk X ad ω) [.ref (ad 0), .int x, .int v] (some (.int (f_X7_turnB x v ω)) : Option Value) (mk X ad ω) := by
  refine ct_of [(0, .ref (ad 0)), (1, .int x), (2, .int v)] (by decide +kernel) rfl rfl (Nat.le_of_ble_eq_true rfl) rfl ?_
  intro p_ e_ s_ m_ args_ below_ meth_ c_ C hret hlk hin
  have e1 : (some (.int (f_X7_turnB x v ω)) : Option Value) = (some (.int (f_X7_turnB x v ω)) : Option Value) := rfl
  have e2 : mk X ad ω = mk X ad ω := rfl
  have iX7 : ∀ w ∈ u_ws RX7 TX7 7, w ∈ wsX7_turn := by decide +kernel
  have L10 : Cond.fieldLink RX7 10 (TX7 0).1 (TX7 0).2.1 (TX7 0).2.2.1 ∈ wsX7_turn := by decide +kernel
  refine g_aload_n C dX7_turn_0 rfl 0 rfl ?_
  refine g_get (v := .ref (ad 1)) C iX7 (by decide) (mk_0 (by decide)) rfl 0 (by decide) L10 rfl dX7_turn_1 ?_
  refine g_iload_n C dX7_turn_4 rfl 1 rfl ?_
  refine g_callV (rest := []) (st1 := [.null]) C (c_X5_findB 1 x isS_1 hbad ω) (cwV 1 C.hts gX7_turn_X5_find rfl rfl rfl md_X5_find ⟨Nat.le_of_ble_eq_true rfl, Nat.le_of_ble_eq_true rfl⟩) (by decide) (mk_1 (by decide)) rfl rfl rfl rfl rfl (Nat.le_of_ble_eq_true rfl) dX7_turn_5 (Nat.zero_le _) (Nat.zero_le _) ?_
  refine g_astoreN_n (lv' := [(3, .null), (0, .ref (ad 0)), (1, .int x), (2, .int v)]) C dX7_turn_8 rfl (by decide) rfl ?_
  refine g_aloadN_n C dX7_turn_9 rfl 0 rfl ?_
  refine g_ifnonnullN C dX7_turn_10 ?_
  refine g_iconst (v := (-1)) C dX7_turn_13 (by decide) ?_
  exact g_iret C hret hlk (e1.trans (congrArg (fun z => some (Value.int z)) rfl)) e2 dX7_turn_14
abbrev rm_X7_press : Room := { frames := 5, cells := 0, slots := 0, locals := 103 }
theorem md_X7_press : yX7_press.cls = RX7 ∧ yX7_press.cls ≠ "java/lang/invoke/MethodHandle" ∧ yX7_press.cls ≠ "java/lang/invoke/VarHandle" ∧ (parseMethodDescriptor yX7_press.desc).map (fun d => d.parameters.length) = some 2 := by decide +kernel
def f_X7_press (k : Nat) (v : Int32) (ω : Mem) : Int32 × Mem := (if (bb (ω (5 + k) 2)) = v then ((-5), ω) else ((f_X7_oneIf (f_X5_isOpen 1 (5 + k) (st (f_X1_record 1 ω) (5 + k) 2 v)) (st (f_X1_record 1 ω) (5 + k) 2 v)), (st (f_X1_record 1 ω) (5 + k) 2 v)))
set_option maxRecDepth 100000 in
set_option maxHeartbeats 4000000 in
theorem c_X7_press {l_ : Launch} {sa : Nat → Nat} {D : va_G} {X : Nat → ClassId} {ad : Nat → Nat} (k : Nat) (v : Int32) (hb_v : bb v = v) (hk : k < 4) (ω : Mem) (hst : hstP ω) : CT l_ yX7_press wsX7_press rm_X7_press sa D (tyX X) 120 ad (mk X ad ω) [.ref (ad 0), .int (nI (k)), .int v] (some (.int (f_X7_press k v ω).1) : Option Value) (mk X ad (f_X7_press k v ω).2) := by
  refine ct_of [(0, .ref (ad 0)), (1, .int (nI (k))), (2, .int v)] (by decide +kernel) rfl rfl (Nat.le_of_ble_eq_true rfl) rfl ?_
  intro p_ e_ s_ m_ args_ below_ meth_ c_ C hret hlk hin
  have e1 : (some (.int (f_X7_press k v ω).1) : Option Value) = (some (.int (f_X7_press k v ω).1) : Option Value) := rfl
  have e2 : mk X ad (f_X7_press k v ω).2 = mk X ad (f_X7_press k v ω).2 := rfl
  have iX0 : ∀ w ∈ u_ws RX0 TX0 10, w ∈ wsX7_press := by decide +kernel
  have iX7 : ∀ w ∈ u_ws RX7 TX7 7, w ∈ wsX7_press := by decide +kernel
  have L10 : Cond.fieldLink RX7 10 (TX7 0).1 (TX7 0).2.1 (TX7 0).2.2.1 ∈ wsX7_press := by decide +kernel
  have L120 : Cond.fieldLink RX7 120 (TX0 2).1 (TX0 2).2.1 (TX0 2).2.2.1 ∈ wsX7_press := by decide +kernel
  have L32 : Cond.fieldLink RX7 32 (TX7 4).1 (TX7 4).2.1 (TX7 4).2.2.1 ∈ wsX7_press := by decide +kernel
  refine g_aload_n C dX7_press_0 rfl 0 rfl ?_
  refine g_get (v := .ref (ad 1)) C iX7 (by decide) (mk_0 (by decide)) rfl 0 (by decide) L10 rfl dX7_press_1 ?_
  refine g_iload_n C dX7_press_4 rfl 1 rfl ?_
  refine g_callV (rest := []) (st1 := [.ref (ad (5 + k))]) C (c_X5_find 1 k isS_1 (by omega) ω) (cwV 1 C.hts gX7_press_X5_find rfl rfl rfl md_X5_find ⟨Nat.le_of_ble_eq_true rfl, Nat.le_of_ble_eq_true rfl⟩) (by decide) (mk_1 (by decide)) rfl rfl rfl rfl rfl (Nat.le_of_ble_eq_true rfl) dX7_press_5 (Nat.zero_le _) (Nat.zero_le _) ?_
  refine g_astore_n (lv' := [(3, .ref (ad (5 + k))), (0, .ref (ad 0)), (1, .int (nI (k))), (2, .int v)]) C dX7_press_8 rfl (by decide) rfl ?_
  refine g_aload_n C dX7_press_9 rfl 0 rfl ?_
  refine g_ifnonnull (tgt := 15) C dX7_press_10 (by decide) ?_
  refine g_aload_n C dX7_press_15 rfl 0 rfl ?_
  refine g_get (v := .int (bb (ω (5 + k) 2))) C iX0 ((isS_1.bn (by omega))).1 (mk_4 ((isS_1.bn (by omega))).2) rfl 2 (by decide) L120 rfl dX7_press_16 ?_
  refine g_iload_n C dX7_press_19 rfl 3 rfl ?_
  refine g_icmp_ne (tgt := 26) C dX7_press_20 (by decide) (fun h1 => ?_) (fun h1 => ?_)
  · refine g_aload_n C dX7_press_26 rfl 1 rfl ?_
    refine g_get (v := .ref (ad 52)) C iX7 (by decide) (mk_0 (by decide)) rfl 4 (by decide) L32 rfl dX7_press_27 ?_
    refine g_aload_n C dX7_press_30 rfl 1 rfl ?_
    refine g_get (v := .ref (ad 1)) C iX7 (by decide) (mk_0 (by decide)) rfl 0 (by decide) L10 rfl dX7_press_31 ?_
    refine g_callV (rest := []) (st1 := []) C (c_X1_record 1 isS_1 ω hst) (cwV 1 C.hts gX7_press_X1_record rfl rfl rfl md_X1_record ⟨Nat.le_of_ble_eq_true rfl, Nat.le_of_ble_eq_true rfl⟩) (by decide) (mk_7 (by decide)) rfl rfl rfl rfl rfl (Nat.le_of_ble_eq_true rfl) dX7_press_34 (Nat.zero_le _) (Nat.zero_le _) ?_
    refine g_aload_n C dX7_press_37 rfl 0 rfl ?_
    refine g_iload_n C dX7_press_38 rfl 3 rfl ?_
    refine g_put C iX0 tyX0 tyX0_ok nmX0 ((isS_1.bn (by omega))).1 (mk_4 ((isS_1.bn (by omega))).2) rfl 2 (by decide) L120 rfl (nar_b hb_v).1 (nar_b hb_v).2 (Nat.le_of_ble_eq_true rfl) dX7_press_39 ?_
    refine gv_eqG (mkp_4_2 ((isS_1.bn (by omega))).2 hb_v) ?_
    refine g_aload_n C dX7_press_42 rfl 1 rfl ?_
    refine g_get (v := .ref (ad 1)) C iX7 (by decide) (mk_0 (by decide)) rfl 0 (by decide) L10 rfl dX7_press_43 ?_
    refine g_aload_n C dX7_press_46 rfl 0 rfl ?_
    refine g_callV (rest := []) (st1 := [.int (f_X5_isOpen 1 (5 + k) (st (f_X1_record 1 ω) (5 + k) 2 v))]) C (c_X5_isOpen 1 (5 + k) isS_1 (isS_1.bn (by omega)) (st (f_X1_record 1 ω) (5 + k) 2 v)) (cwV 1 C.hts gX7_press_X5_isOpen rfl rfl rfl md_X5_isOpen ⟨Nat.le_of_ble_eq_true rfl, Nat.le_of_ble_eq_true rfl⟩) (by decide) (mk_1 (by decide)) rfl rfl rfl rfl rfl (Nat.le_of_ble_eq_true rfl) dX7_press_47 (Nat.zero_le _) (Nat.zero_le _) ?_
    refine g_callS (rest := []) (st1 := [.int (f_X7_oneIf (f_X5_isOpen 1 (5 + k) (st (f_X1_record 1 ω) (5 + k) 2 v)) (st (f_X1_record 1 ω) (5 + k) 2 v))]) C (c_X7_oneIf (f_X5_isOpen 1 (5 + k) (st (f_X1_record 1 ω) (5 + k) 2 v)) (st (f_X1_record 1 ω) (5 + k) 2 v)) (va_cwS 1 C.hts gX7_press_X7_oneIf rfl rfl rfl md_X7_oneIf.2 ⟨Nat.le_of_ble_eq_true rfl, Nat.le_of_ble_eq_true rfl⟩) rfl rfl rfl (Nat.le_of_ble_eq_true rfl) dX7_press_50 (Nat.zero_le _) (Nat.zero_le _) ?_
    exact g_iret C hret hlk (e1.trans (pr1 (v := (f_X7_oneIf (f_X5_isOpen 1 (5 + k) (st (f_X1_record 1 ω) (5 + k) 2 v)) (st (f_X1_record 1 ω) (5 + k) 2 v))) (w := (st (f_X1_record 1 ω) (5 + k) 2 v)) ((if_neg h1).trans rfl))) (e2.trans (pr2 (v := (f_X7_oneIf (f_X5_isOpen 1 (5 + k) (st (f_X1_record 1 ω) (5 + k) 2 v)) (st (f_X1_record 1 ω) (5 + k) 2 v))) (w := (st (f_X1_record 1 ω) (5 + k) 2 v)) ((if_neg h1).trans rfl))) dX7_press_53
  · refine g_bipush (v := (-5)) C dX7_press_23 (by decide) ?_
    exact g_iret C hret hlk (e1.trans (pr1 (v := (-5)) (w := ω) ((if_pos h1).trans rfl))) (e2.trans (pr2 (v := (-5)) (w := ω) ((if_pos h1).trans rfl))) dX7_press_25
def f_X7_pressB (x : Int32) (v : Int32) (ω : Mem) : Int32 := (-1)
set_option maxRecDepth 100000 in
set_option maxHeartbeats 4000000 in
theorem c_X7_pressB {l_ : Launch} {sa : Nat → Nat} {D : va_G} {X : Nat → ClassId} {ad : Nat → Nat} (x : Int32) (v : Int32) (hb_v : bb v = v) (hbad : x < 0 ∨ 4 ≤ x) (ω : Mem)  : CT l_ yX7_press wsX7_press rm_X7_press sa D (tyX X) 120 ad (mk X ad ω) [.ref (ad 0), .int x, .int v] (some (.int (f_X7_pressB x v ω)) : Option Value) (mk X ad ω) := by
  refine ct_of [(0, .ref (ad 0)), (1, .int x), (2, .int v)] (by decide +kernel) rfl rfl (Nat.le_of_ble_eq_true rfl) rfl ?_
  intro p_ e_ s_ m_ args_ below_ meth_ c_ C hret hlk hin
  have e1 : (some (.int (f_X7_pressB x v ω)) : Option Value) = (some (.int (f_X7_pressB x v ω)) : Option Value) := rfl
  have e2 : mk X ad ω = mk X ad ω := rfl
  have iX7 : ∀ w ∈ u_ws RX7 TX7 7, w ∈ wsX7_press := by decide +kernel
  have L10 : Cond.fieldLink RX7 10 (TX7 0).1 (TX7 0).2.1 (TX7 0).2.2.1 ∈ wsX7_press := by decide +kernel
  refine g_aload_n C dX7_press_0 rfl 0 rfl ?_
  refine g_get (v := .ref (ad 1)) C iX7 (by decide) (mk_0 (by decide)) rfl 0 (by decide) L10 rfl dX7_press_1 ?_
  refine g_iload_n C dX7_press_4 rfl 1 rfl ?_
  refine g_callV (rest := []) (st1 := [.null]) C (c_X5_findB 1 x isS_1 hbad ω) (cwV 1 C.hts gX7_press_X5_find rfl rfl rfl md_X5_find ⟨Nat.le_of_ble_eq_true rfl, Nat.le_of_ble_eq_true rfl⟩) (by decide) (mk_1 (by decide)) rfl rfl rfl rfl rfl (Nat.le_of_ble_eq_true rfl) dX7_press_5 (Nat.zero_le _) (Nat.zero_le _) ?_
  refine g_astoreN_n (lv' := [(3, .null), (0, .ref (ad 0)), (1, .int x), (2, .int v)]) C dX7_press_8 rfl (by decide) rfl ?_
  refine g_aloadN_n C dX7_press_9 rfl 0 rfl ?_
  refine g_ifnonnullN C dX7_press_10 ?_
  refine g_iconst (v := (-1)) C dX7_press_13 (by decide) ?_
  exact g_iret C hret hlk (e1.trans (congrArg (fun z => some (Value.int z)) rfl)) e2 dX7_press_14
abbrev rm_X7_igniter : Room := { frames := 5, cells := 0, slots := 0, locals := 103 }
theorem md_X7_igniter : yX7_igniter.cls = RX7 ∧ yX7_igniter.cls ≠ "java/lang/invoke/MethodHandle" ∧ yX7_igniter.cls ≠ "java/lang/invoke/VarHandle" ∧ (parseMethodDescriptor yX7_igniter.desc).map (fun d => d.parameters.length) = some 2 := by decide +kernel
def f_X7_igniter (k : Nat) (v : Int32) (ω : Mem) : Int32 × Mem := (if (bb (ω (5 + k) 3)) = v then ((-5), ω) else ((f_X5_ignitersOn 1 (st (f_X1_record 1 ω) (5 + k) 3 v)), (st (f_X1_record 1 ω) (5 + k) 3 v)))
set_option maxRecDepth 100000 in
set_option maxHeartbeats 4000000 in
theorem c_X7_igniter {l_ : Launch} {sa : Nat → Nat} {D : va_G} {X : Nat → ClassId} {ad : Nat → Nat} (k : Nat) (v : Int32) (hb_v : bb v = v) (hk : k < 4) (ω : Mem) (hst : hstP ω) : CT l_ yX7_igniter wsX7_igniter rm_X7_igniter sa D (tyX X) 120 ad (mk X ad ω) [.ref (ad 0), .int (nI (k)), .int v] (some (.int (f_X7_igniter k v ω).1) : Option Value) (mk X ad (f_X7_igniter k v ω).2) := by
  refine ct_of [(0, .ref (ad 0)), (1, .int (nI (k))), (2, .int v)] (by decide +kernel) rfl rfl (Nat.le_of_ble_eq_true rfl) rfl ?_
  intro p_ e_ s_ m_ args_ below_ meth_ c_ C hret hlk hin
  have e1 : (some (.int (f_X7_igniter k v ω).1) : Option Value) = (some (.int (f_X7_igniter k v ω).1) : Option Value) := rfl
  have e2 : mk X ad (f_X7_igniter k v ω).2 = mk X ad (f_X7_igniter k v ω).2 := rfl
  have iX0 : ∀ w ∈ u_ws RX0 TX0 10, w ∈ wsX7_igniter := by decide +kernel
  have iX7 : ∀ w ∈ u_ws RX7 TX7 7, w ∈ wsX7_igniter := by decide +kernel
  have L10 : Cond.fieldLink RX7 10 (TX7 0).1 (TX7 0).2.1 (TX7 0).2.2.1 ∈ wsX7_igniter := by decide +kernel
  have L131 : Cond.fieldLink RX7 131 (TX0 3).1 (TX0 3).2.1 (TX0 3).2.2.1 ∈ wsX7_igniter := by decide +kernel
  have L32 : Cond.fieldLink RX7 32 (TX7 4).1 (TX7 4).2.1 (TX7 4).2.2.1 ∈ wsX7_igniter := by decide +kernel
  refine g_aload_n C dX7_igniter_0 rfl 0 rfl ?_
  refine g_get (v := .ref (ad 1)) C iX7 (by decide) (mk_0 (by decide)) rfl 0 (by decide) L10 rfl dX7_igniter_1 ?_
  refine g_iload_n C dX7_igniter_4 rfl 1 rfl ?_
  refine g_callV (rest := []) (st1 := [.ref (ad (5 + k))]) C (c_X5_find 1 k isS_1 (by omega) ω) (cwV 1 C.hts gX7_igniter_X5_find rfl rfl rfl md_X5_find ⟨Nat.le_of_ble_eq_true rfl, Nat.le_of_ble_eq_true rfl⟩) (by decide) (mk_1 (by decide)) rfl rfl rfl rfl rfl (Nat.le_of_ble_eq_true rfl) dX7_igniter_5 (Nat.zero_le _) (Nat.zero_le _) ?_
  refine g_astore_n (lv' := [(3, .ref (ad (5 + k))), (0, .ref (ad 0)), (1, .int (nI (k))), (2, .int v)]) C dX7_igniter_8 rfl (by decide) rfl ?_
  refine g_aload_n C dX7_igniter_9 rfl 0 rfl ?_
  refine g_ifnonnull (tgt := 15) C dX7_igniter_10 (by decide) ?_
  refine g_aload_n C dX7_igniter_15 rfl 0 rfl ?_
  refine g_get (v := .int (bb (ω (5 + k) 3))) C iX0 ((isS_1.bn (by omega))).1 (mk_4 ((isS_1.bn (by omega))).2) rfl 3 (by decide) L131 rfl dX7_igniter_16 ?_
  refine g_iload_n C dX7_igniter_19 rfl 3 rfl ?_
  refine g_icmp_ne (tgt := 26) C dX7_igniter_20 (by decide) (fun h1 => ?_) (fun h1 => ?_)
  · refine g_aload_n C dX7_igniter_26 rfl 1 rfl ?_
    refine g_get (v := .ref (ad 52)) C iX7 (by decide) (mk_0 (by decide)) rfl 4 (by decide) L32 rfl dX7_igniter_27 ?_
    refine g_aload_n C dX7_igniter_30 rfl 1 rfl ?_
    refine g_get (v := .ref (ad 1)) C iX7 (by decide) (mk_0 (by decide)) rfl 0 (by decide) L10 rfl dX7_igniter_31 ?_
    refine g_callV (rest := []) (st1 := []) C (c_X1_record 1 isS_1 ω hst) (cwV 1 C.hts gX7_igniter_X1_record rfl rfl rfl md_X1_record ⟨Nat.le_of_ble_eq_true rfl, Nat.le_of_ble_eq_true rfl⟩) (by decide) (mk_7 (by decide)) rfl rfl rfl rfl rfl (Nat.le_of_ble_eq_true rfl) dX7_igniter_34 (Nat.zero_le _) (Nat.zero_le _) ?_
    refine g_aload_n C dX7_igniter_37 rfl 0 rfl ?_
    refine g_iload_n C dX7_igniter_38 rfl 3 rfl ?_
    refine g_put C iX0 tyX0 tyX0_ok nmX0 ((isS_1.bn (by omega))).1 (mk_4 ((isS_1.bn (by omega))).2) rfl 3 (by decide) L131 rfl (nar_b hb_v).1 (nar_b hb_v).2 (Nat.le_of_ble_eq_true rfl) dX7_igniter_39 ?_
    refine gv_eqG (mkp_4_3 ((isS_1.bn (by omega))).2 hb_v) ?_
    refine g_aload_n C dX7_igniter_42 rfl 1 rfl ?_
    refine g_get (v := .ref (ad 1)) C iX7 (by decide) (mk_0 (by decide)) rfl 0 (by decide) L10 rfl dX7_igniter_43 ?_
    refine g_callV (rest := []) (st1 := [.int (f_X5_ignitersOn 1 (st (f_X1_record 1 ω) (5 + k) 3 v))]) C (c_X5_ignitersOn 1 isS_1 (st (f_X1_record 1 ω) (5 + k) 3 v)) (cwV 0 C.hts gX7_igniter_X5_ignitersOn rfl rfl rfl md_X5_ignitersOn ⟨Nat.le_of_ble_eq_true rfl, Nat.le_of_ble_eq_true rfl⟩) (by decide) (mk_1 (by decide)) rfl rfl rfl rfl rfl (Nat.le_of_ble_eq_true rfl) dX7_igniter_46 (Nat.zero_le _) (Nat.zero_le _) ?_
    exact g_iret C hret hlk (e1.trans (pr1 (v := (f_X5_ignitersOn 1 (st (f_X1_record 1 ω) (5 + k) 3 v))) (w := (st (f_X1_record 1 ω) (5 + k) 3 v)) ((if_neg h1).trans rfl))) (e2.trans (pr2 (v := (f_X5_ignitersOn 1 (st (f_X1_record 1 ω) (5 + k) 3 v))) (w := (st (f_X1_record 1 ω) (5 + k) 3 v)) ((if_neg h1).trans rfl))) dX7_igniter_49
  · refine g_bipush (v := (-5)) C dX7_igniter_23 (by decide) ?_
    exact g_iret C hret hlk (e1.trans (pr1 (v := (-5)) (w := ω) ((if_pos h1).trans rfl))) (e2.trans (pr2 (v := (-5)) (w := ω) ((if_pos h1).trans rfl))) dX7_igniter_25
def f_X7_igniterB (x : Int32) (v : Int32) (ω : Mem) : Int32 := (-1)
set_option maxRecDepth 100000 in
set_option maxHeartbeats 4000000 in
theorem c_X7_igniterB {l_ : Launch} {sa : Nat → Nat} {D : va_G} {X : Nat → ClassId} {ad : Nat → Nat} (x : Int32) (v : Int32) (hb_v : bb v = v) (hbad : x < 0 ∨ 4 ≤ x) (ω : Mem)  : CT l_ yX7_igniter wsX7_igniter rm_X7_igniter sa D (tyX X) 120 ad (mk X ad ω) [.ref (ad 0), .int x, .int v] (some (.int (f_X7_igniterB x v ω)) : Option Value) (mk X ad ω) := by
  refine ct_of [(0, .ref (ad 0)), (1, .int x), (2, .int v)] (by decide +kernel) rfl rfl (Nat.le_of_ble_eq_true rfl) rfl ?_
  intro p_ e_ s_ m_ args_ below_ meth_ c_ C hret hlk hin
  have e1 : (some (.int (f_X7_igniterB x v ω)) : Option Value) = (some (.int (f_X7_igniterB x v ω)) : Option Value) := rfl
  have e2 : mk X ad ω = mk X ad ω := rfl
  have iX7 : ∀ w ∈ u_ws RX7 TX7 7, w ∈ wsX7_igniter := by decide +kernel
  have L10 : Cond.fieldLink RX7 10 (TX7 0).1 (TX7 0).2.1 (TX7 0).2.2.1 ∈ wsX7_igniter := by decide +kernel
  refine g_aload_n C dX7_igniter_0 rfl 0 rfl ?_
  refine g_get (v := .ref (ad 1)) C iX7 (by decide) (mk_0 (by decide)) rfl 0 (by decide) L10 rfl dX7_igniter_1 ?_
  refine g_iload_n C dX7_igniter_4 rfl 1 rfl ?_
  refine g_callV (rest := []) (st1 := [.null]) C (c_X5_findB 1 x isS_1 hbad ω) (cwV 1 C.hts gX7_igniter_X5_find rfl rfl rfl md_X5_find ⟨Nat.le_of_ble_eq_true rfl, Nat.le_of_ble_eq_true rfl⟩) (by decide) (mk_1 (by decide)) rfl rfl rfl rfl rfl (Nat.le_of_ble_eq_true rfl) dX7_igniter_5 (Nat.zero_le _) (Nat.zero_le _) ?_
  refine g_astoreN_n (lv' := [(3, .null), (0, .ref (ad 0)), (1, .int x), (2, .int v)]) C dX7_igniter_8 rfl (by decide) rfl ?_
  refine g_aloadN_n C dX7_igniter_9 rfl 0 rfl ?_
  refine g_ifnonnullN C dX7_igniter_10 ?_
  refine g_iconst (v := (-1)) C dX7_igniter_13 (by decide) ?_
  exact g_iret C hret hlk (e1.trans (congrArg (fun z => some (Value.int z)) rfl)) e2 dX7_igniter_14
abbrev rm_X7_light : Room := { frames := 5, cells := 0, slots := 0, locals := 103 }
theorem md_X7_light : yX7_light.cls = RX7 ∧ yX7_light.cls ≠ "java/lang/invoke/MethodHandle" ∧ yX7_light.cls ≠ "java/lang/invoke/VarHandle" ∧ (parseMethodDescriptor yX7_light.desc).map (fun d => d.parameters.length) = some 1 := by decide +kernel
def f_X7_light (k : Nat) (ω : Mem) : Int32 × Mem := (if (f_X5_isOpen 1 (5 + k) ω) = 0 then ((-4), ω) else (if (bb (ω (5 + k) 4)) = 0 then (if (f_X5_allowsFire 1 ω) = 0 then ((-4), ω) else (if (f_X5_draft 1 (f_X1_record 1 ω)) ≤ (f_X0_strength (5 + k) (f_X1_record 1 ω)) then (1, (f_X5_kindle 1 (nI (k)) (5 + k) (f_X1_record 1 ω))) else (0, (f_X1_record 1 ω)))) else ((-4), ω)))
set_option maxRecDepth 100000 in
set_option maxHeartbeats 4000000 in
theorem c_X7_light {l_ : Launch} {sa : Nat → Nat} {D : va_G} {X : Nat → ClassId} {ad : Nat → Nat} (k : Nat) (hk : k < 4) (ω : Mem) (hst : hstP ω) : CT l_ yX7_light wsX7_light rm_X7_light sa D (tyX X) 120 ad (mk X ad ω) [.ref (ad 0), .int (nI (k))] (some (.int (f_X7_light k ω).1) : Option Value) (mk X ad (f_X7_light k ω).2) := by
  refine ct_of [(0, .ref (ad 0)), (1, .int (nI (k)))] (by decide +kernel) rfl rfl (Nat.le_of_ble_eq_true rfl) rfl ?_
  intro p_ e_ s_ m_ args_ below_ meth_ c_ C hret hlk hin
  have e1 : (some (.int (f_X7_light k ω).1) : Option Value) = (some (.int (f_X7_light k ω).1) : Option Value) := rfl
  have e2 : mk X ad (f_X7_light k ω).2 = mk X ad (f_X7_light k ω).2 := rfl
  have iX0 : ∀ w ∈ u_ws RX0 TX0 10, w ∈ wsX7_light := by decide +kernel
  have iX7 : ∀ w ∈ u_ws RX7 TX7 7, w ∈ wsX7_light := by decide +kernel
  have L10 : Cond.fieldLink RX7 10 (TX7 0).1 (TX7 0).2.1 (TX7 0).2.2.1 ∈ wsX7_light := by decide +kernel
  have L117 : Cond.fieldLink RX7 117 (TX0 4).1 (TX0 4).2.1 (TX0 4).2.2.1 ∈ wsX7_light := by decide +kernel
  have L32 : Cond.fieldLink RX7 32 (TX7 4).1 (TX7 4).2.1 (TX7 4).2.2.1 ∈ wsX7_light := by decide +kernel
  refine g_aload_n C dX7_light_0 rfl 0 rfl ?_
  refine g_get (v := .ref (ad 1)) C iX7 (by decide) (mk_0 (by decide)) rfl 0 (by decide) L10 rfl dX7_light_1 ?_
  refine g_iload_n C dX7_light_4 rfl 1 rfl ?_
  refine g_callV (rest := []) (st1 := [.ref (ad (5 + k))]) C (c_X5_find 1 k isS_1 (by omega) ω) (cwV 1 C.hts gX7_light_X5_find rfl rfl rfl md_X5_find ⟨Nat.le_of_ble_eq_true rfl, Nat.le_of_ble_eq_true rfl⟩) (by decide) (mk_1 (by decide)) rfl rfl rfl rfl rfl (Nat.le_of_ble_eq_true rfl) dX7_light_5 (Nat.zero_le _) (Nat.zero_le _) ?_
  refine g_astore_n (lv' := [(2, .ref (ad (5 + k))), (0, .ref (ad 0)), (1, .int (nI (k)))]) C dX7_light_8 rfl (by decide) rfl ?_
  refine g_aload_n C dX7_light_9 rfl 0 rfl ?_
  refine g_ifnonnull (tgt := 15) C dX7_light_10 (by decide) ?_
  refine g_aload_n C dX7_light_15 rfl 1 rfl ?_
  refine g_get (v := .ref (ad 1)) C iX7 (by decide) (mk_0 (by decide)) rfl 0 (by decide) L10 rfl dX7_light_16 ?_
  refine g_aload_n C dX7_light_19 rfl 0 rfl ?_
  refine g_callV (rest := []) (st1 := [.int (f_X5_isOpen 1 (5 + k) ω)]) C (c_X5_isOpen 1 (5 + k) isS_1 (isS_1.bn (by omega)) ω) (cwV 1 C.hts gX7_light_X5_isOpen rfl rfl rfl md_X5_isOpen ⟨Nat.le_of_ble_eq_true rfl, Nat.le_of_ble_eq_true rfl⟩) (by decide) (mk_1 (by decide)) rfl rfl rfl rfl rfl (Nat.le_of_ble_eq_true rfl) dX7_light_20 (Nat.zero_le _) (Nat.zero_le _) ?_
  refine g_if_eq (tgt := 43) C dX7_light_23 (by decide) (fun h1 => ?_) (fun h1 => ?_)
  · refine g_bipush (v := (-4)) C dX7_light_43 (by decide) ?_
    exact g_iret C hret hlk (e1.trans (pr1 (v := (-4)) (w := ω) ((if_pos h1).trans rfl))) (e2.trans (pr2 (v := (-4)) (w := ω) ((if_pos h1).trans rfl))) dX7_light_45
  · refine g_aload_n C dX7_light_26 rfl 0 rfl ?_
    refine g_get (v := .int (bb (ω (5 + k) 4))) C iX0 ((isS_1.bn (by omega))).1 (mk_4 ((isS_1.bn (by omega))).2) rfl 4 (by decide) L117 rfl dX7_light_27 ?_
    refine g_if_ne (tgt := 43) C dX7_light_30 (by decide) (fun h2 => ?_) (fun h2 => ?_)
    · refine g_bipush (v := (-4)) C dX7_light_43 (by decide) ?_
      exact g_iret C hret hlk (e1.trans (pr1 (v := (-4)) (w := ω) ((if_neg h1).trans ((if_neg h2).trans rfl)))) (e2.trans (pr2 (v := (-4)) (w := ω) ((if_neg h1).trans ((if_neg h2).trans rfl)))) dX7_light_45
    · refine g_aload_n C dX7_light_33 rfl 1 rfl ?_
      refine g_get (v := .ref (ad 1)) C iX7 (by decide) (mk_0 (by decide)) rfl 0 (by decide) L10 rfl dX7_light_34 ?_
      refine g_callV (rest := []) (st1 := [.int (f_X5_allowsFire 1 ω)]) C (c_X5_allowsFire 1 isS_1 ω) (cwV 0 C.hts gX7_light_X5_allowsFire rfl rfl rfl md_X5_allowsFire ⟨Nat.le_of_ble_eq_true rfl, Nat.le_of_ble_eq_true rfl⟩) (by decide) (mk_1 (by decide)) rfl rfl rfl rfl rfl (Nat.le_of_ble_eq_true rfl) dX7_light_37 (Nat.zero_le _) (Nat.zero_le _) ?_
      refine g_if_ne (tgt := 46) C dX7_light_40 (by decide) (fun h3 => ?_) (fun h3 => ?_)
      · refine g_aload_n C dX7_light_46 rfl 1 rfl ?_
        refine g_get (v := .ref (ad 52)) C iX7 (by decide) (mk_0 (by decide)) rfl 4 (by decide) L32 rfl dX7_light_47 ?_
        refine g_aload_n C dX7_light_50 rfl 1 rfl ?_
        refine g_get (v := .ref (ad 1)) C iX7 (by decide) (mk_0 (by decide)) rfl 0 (by decide) L10 rfl dX7_light_51 ?_
        refine g_callV (rest := []) (st1 := []) C (c_X1_record 1 isS_1 ω hst) (cwV 1 C.hts gX7_light_X1_record rfl rfl rfl md_X1_record ⟨Nat.le_of_ble_eq_true rfl, Nat.le_of_ble_eq_true rfl⟩) (by decide) (mk_7 (by decide)) rfl rfl rfl rfl rfl (Nat.le_of_ble_eq_true rfl) dX7_light_54 (Nat.zero_le _) (Nat.zero_le _) ?_
        refine g_aload_n C dX7_light_57 rfl 1 rfl ?_
        refine g_get (v := .ref (ad 1)) C iX7 (by decide) (mk_0 (by decide)) rfl 0 (by decide) L10 rfl dX7_light_58 ?_
        refine g_callV (rest := []) (st1 := [.int (f_X5_draft 1 (f_X1_record 1 ω))]) C (c_X5_draft 1 isS_1 (f_X1_record 1 ω)) (cwV 0 C.hts gX7_light_X5_draft rfl rfl rfl md_X5_draft ⟨Nat.le_of_ble_eq_true rfl, Nat.le_of_ble_eq_true rfl⟩) (by decide) (mk_1 (by decide)) rfl rfl rfl rfl rfl (Nat.le_of_ble_eq_true rfl) dX7_light_61 (Nat.zero_le _) (Nat.zero_le _) ?_
        refine g_aload_n C dX7_light_64 rfl 0 rfl ?_
        refine g_callV (rest := [.int (f_X5_draft 1 (f_X1_record 1 ω))]) (st1 := [.int (f_X0_strength (5 + k) (f_X1_record 1 ω)), .int (f_X5_draft 1 (f_X1_record 1 ω))]) C (c_X0_strength (5 + k) (isS_1.bn (by omega)) (f_X1_record 1 ω)) (cwV 0 C.hts gX7_light_X0_strength rfl rfl rfl md_X0_strength ⟨Nat.le_of_ble_eq_true rfl, Nat.le_of_ble_eq_true rfl⟩) ((isS_1.bn (by omega))).1 (mk_4 ((isS_1.bn (by omega))).2) rfl rfl rfl rfl rfl (Nat.le_of_ble_eq_true rfl) dX7_light_65 (Nat.zero_le _) (Nat.zero_le _) ?_
        refine g_icmp_le (tgt := 73) C dX7_light_68 (by decide) (fun h4 => ?_) (fun h4 => ?_)
        · refine g_aload_n C dX7_light_73 rfl 1 rfl ?_
          refine g_get (v := .ref (ad 1)) C iX7 (by decide) (mk_0 (by decide)) rfl 0 (by decide) L10 rfl dX7_light_74 ?_
          refine g_iload_n C dX7_light_77 rfl 2 rfl ?_
          refine g_aload_n C dX7_light_78 rfl 0 rfl ?_
          refine g_callV (rest := []) (st1 := []) C (c_X5_kindle 1 (nI (k)) (5 + k) isS_1 (isS_1.bn (by omega)) (f_X1_record 1 ω)) (cwV 2 C.hts gX7_light_X5_kindle rfl rfl rfl md_X5_kindle ⟨Nat.le_of_ble_eq_true rfl, Nat.le_of_ble_eq_true rfl⟩) (by decide) (mk_1 (by decide)) rfl rfl rfl rfl rfl (Nat.le_of_ble_eq_true rfl) dX7_light_79 (Nat.zero_le _) (Nat.zero_le _) ?_
          refine g_iconst (v := 1) C dX7_light_82 (by decide) ?_
          exact g_iret C hret hlk (e1.trans (pr1 (v := 1) (w := (f_X5_kindle 1 (nI (k)) (5 + k) (f_X1_record 1 ω))) ((if_neg h1).trans ((if_pos h2).trans ((if_neg h3).trans ((if_pos h4).trans rfl)))))) (e2.trans (pr2 (v := 1) (w := (f_X5_kindle 1 (nI (k)) (5 + k) (f_X1_record 1 ω))) ((if_neg h1).trans ((if_pos h2).trans ((if_neg h3).trans ((if_pos h4).trans rfl)))))) dX7_light_83
        · refine g_iconst (v := 0) C dX7_light_71 (by decide) ?_
          exact g_iret C hret hlk (e1.trans (pr1 (v := 0) (w := (f_X1_record 1 ω)) ((if_neg h1).trans ((if_pos h2).trans ((if_neg h3).trans ((if_neg h4).trans rfl)))))) (e2.trans (pr2 (v := 0) (w := (f_X1_record 1 ω)) ((if_neg h1).trans ((if_pos h2).trans ((if_neg h3).trans ((if_neg h4).trans rfl)))))) dX7_light_72
      · refine g_bipush (v := (-4)) C dX7_light_43 (by decide) ?_
        exact g_iret C hret hlk (e1.trans (pr1 (v := (-4)) (w := ω) ((if_neg h1).trans ((if_pos h2).trans ((if_pos h3).trans rfl))))) (e2.trans (pr2 (v := (-4)) (w := ω) ((if_neg h1).trans ((if_pos h2).trans ((if_pos h3).trans rfl))))) dX7_light_45
def f_X7_lightB (x : Int32) (ω : Mem) : Int32 := (-1)
set_option maxRecDepth 100000 in
set_option maxHeartbeats 4000000 in
theorem c_X7_lightB {l_ : Launch} {sa : Nat → Nat} {D : va_G} {X : Nat → ClassId} {ad : Nat → Nat} (x : Int32) (hbad : x < 0 ∨ 4 ≤ x) (ω : Mem)  : CT l_ yX7_light wsX7_light rm_X7_light sa D (tyX X) 120 ad (mk X ad ω) [.ref (ad 0), .int x] (some (.int (f_X7_lightB x ω)) : Option Value) (mk X ad ω) := by
  refine ct_of [(0, .ref (ad 0)), (1, .int x)] (by decide +kernel) rfl rfl (Nat.le_of_ble_eq_true rfl) rfl ?_
  intro p_ e_ s_ m_ args_ below_ meth_ c_ C hret hlk hin
  have e1 : (some (.int (f_X7_lightB x ω)) : Option Value) = (some (.int (f_X7_lightB x ω)) : Option Value) := rfl
  have e2 : mk X ad ω = mk X ad ω := rfl
  have iX7 : ∀ w ∈ u_ws RX7 TX7 7, w ∈ wsX7_light := by decide +kernel
  have L10 : Cond.fieldLink RX7 10 (TX7 0).1 (TX7 0).2.1 (TX7 0).2.2.1 ∈ wsX7_light := by decide +kernel
  refine g_aload_n C dX7_light_0 rfl 0 rfl ?_
  refine g_get (v := .ref (ad 1)) C iX7 (by decide) (mk_0 (by decide)) rfl 0 (by decide) L10 rfl dX7_light_1 ?_
  refine g_iload_n C dX7_light_4 rfl 1 rfl ?_
  refine g_callV (rest := []) (st1 := [.null]) C (c_X5_findB 1 x isS_1 hbad ω) (cwV 1 C.hts gX7_light_X5_find rfl rfl rfl md_X5_find ⟨Nat.le_of_ble_eq_true rfl, Nat.le_of_ble_eq_true rfl⟩) (by decide) (mk_1 (by decide)) rfl rfl rfl rfl rfl (Nat.le_of_ble_eq_true rfl) dX7_light_5 (Nat.zero_le _) (Nat.zero_le _) ?_
  refine g_astoreN_n (lv' := [(2, .null), (0, .ref (ad 0)), (1, .int x)]) C dX7_light_8 rfl (by decide) rfl ?_
  refine g_aloadN_n C dX7_light_9 rfl 0 rfl ?_
  refine g_ifnonnullN C dX7_light_10 ?_
  refine g_iconst (v := (-1)) C dX7_light_13 (by decide) ?_
  exact g_iret C hret hlk (e1.trans (congrArg (fun z => some (Value.int z)) rfl)) e2 dX7_light_14
abbrev rm_X7_unlock : Room := { frames := 5, cells := 0, slots := 0, locals := 103 }
theorem md_X7_unlock : yX7_unlock.cls = RX7 ∧ yX7_unlock.cls ≠ "java/lang/invoke/MethodHandle" ∧ yX7_unlock.cls ≠ "java/lang/invoke/VarHandle" ∧ (parseMethodDescriptor yX7_unlock.desc).map (fun d => d.parameters.length) = some 1 := by decide +kernel
def f_X7_unlock (k : Nat) (ω : Mem) : Int32 × Mem := (if (bb (ω (5 + k) 6)) = 0 then ((-4), ω) else (if (ω (5 + k) 1) = 0 then ((f_X5_lockedBurners 1 (st (st (f_X1_record 1 ω) (5 + k) 6 0) (5 + k) 7 0)), (st (st (f_X1_record 1 ω) (5 + k) 6 0) (5 + k) 7 0)) else ((-4), ω)))
set_option maxRecDepth 100000 in
set_option maxHeartbeats 4000000 in
theorem c_X7_unlock {l_ : Launch} {sa : Nat → Nat} {D : va_G} {X : Nat → ClassId} {ad : Nat → Nat} (k : Nat) (hk : k < 4) (ω : Mem) (hst : hstP ω) : CT l_ yX7_unlock wsX7_unlock rm_X7_unlock sa D (tyX X) 120 ad (mk X ad ω) [.ref (ad 0), .int (nI (k))] (some (.int (f_X7_unlock k ω).1) : Option Value) (mk X ad (f_X7_unlock k ω).2) := by
  refine ct_of [(0, .ref (ad 0)), (1, .int (nI (k)))] (by decide +kernel) rfl rfl (Nat.le_of_ble_eq_true rfl) rfl ?_
  intro p_ e_ s_ m_ args_ below_ meth_ c_ C hret hlk hin
  have e1 : (some (.int (f_X7_unlock k ω).1) : Option Value) = (some (.int (f_X7_unlock k ω).1) : Option Value) := rfl
  have e2 : mk X ad (f_X7_unlock k ω).2 = mk X ad (f_X7_unlock k ω).2 := rfl
  have iX0 : ∀ w ∈ u_ws RX0 TX0 10, w ∈ wsX7_unlock := by decide +kernel
  have iX7 : ∀ w ∈ u_ws RX7 TX7 7, w ∈ wsX7_unlock := by decide +kernel
  have L10 : Cond.fieldLink RX7 10 (TX7 0).1 (TX7 0).2.1 (TX7 0).2.2.1 ∈ wsX7_unlock := by decide +kernel
  have L151 : Cond.fieldLink RX7 151 (TX0 6).1 (TX0 6).2.1 (TX0 6).2.2.1 ∈ wsX7_unlock := by decide +kernel
  have L154 : Cond.fieldLink RX7 154 (TX0 7).1 (TX0 7).2.1 (TX0 7).2.2.1 ∈ wsX7_unlock := by decide +kernel
  have L32 : Cond.fieldLink RX7 32 (TX7 4).1 (TX7 4).2.1 (TX7 4).2.2.1 ∈ wsX7_unlock := by decide +kernel
  have L83 : Cond.fieldLink RX7 83 (TX0 1).1 (TX0 1).2.1 (TX0 1).2.2.1 ∈ wsX7_unlock := by decide +kernel
  refine g_aload_n C dX7_unlock_0 rfl 0 rfl ?_
  refine g_get (v := .ref (ad 1)) C iX7 (by decide) (mk_0 (by decide)) rfl 0 (by decide) L10 rfl dX7_unlock_1 ?_
  refine g_iload_n C dX7_unlock_4 rfl 1 rfl ?_
  refine g_callV (rest := []) (st1 := [.ref (ad (5 + k))]) C (c_X5_find 1 k isS_1 (by omega) ω) (cwV 1 C.hts gX7_unlock_X5_find rfl rfl rfl md_X5_find ⟨Nat.le_of_ble_eq_true rfl, Nat.le_of_ble_eq_true rfl⟩) (by decide) (mk_1 (by decide)) rfl rfl rfl rfl rfl (Nat.le_of_ble_eq_true rfl) dX7_unlock_5 (Nat.zero_le _) (Nat.zero_le _) ?_
  refine g_astore_n (lv' := [(2, .ref (ad (5 + k))), (0, .ref (ad 0)), (1, .int (nI (k)))]) C dX7_unlock_8 rfl (by decide) rfl ?_
  refine g_aload_n C dX7_unlock_9 rfl 0 rfl ?_
  refine g_ifnonnull (tgt := 15) C dX7_unlock_10 (by decide) ?_
  refine g_aload_n C dX7_unlock_15 rfl 0 rfl ?_
  refine g_get (v := .int (bb (ω (5 + k) 6))) C iX0 ((isS_1.bn (by omega))).1 (mk_4 ((isS_1.bn (by omega))).2) rfl 6 (by decide) L151 rfl dX7_unlock_16 ?_
  refine g_if_eq (tgt := 29) C dX7_unlock_19 (by decide) (fun h1 => ?_) (fun h1 => ?_)
  · refine g_bipush (v := (-4)) C dX7_unlock_29 (by decide) ?_
    exact g_iret C hret hlk (e1.trans (pr1 (v := (-4)) (w := ω) ((if_pos h1).trans rfl))) (e2.trans (pr2 (v := (-4)) (w := ω) ((if_pos h1).trans rfl))) dX7_unlock_31
  · refine g_aload_n C dX7_unlock_22 rfl 0 rfl ?_
    refine g_get (v := .int (ω (5 + k) 1)) C iX0 ((isS_1.bn (by omega))).1 (mk_4 ((isS_1.bn (by omega))).2) rfl 1 (by decide) L83 rfl dX7_unlock_23 ?_
    refine g_if_eq (tgt := 32) C dX7_unlock_26 (by decide) (fun h2 => ?_) (fun h2 => ?_)
    · refine g_aload_n C dX7_unlock_32 rfl 1 rfl ?_
      refine g_get (v := .ref (ad 52)) C iX7 (by decide) (mk_0 (by decide)) rfl 4 (by decide) L32 rfl dX7_unlock_33 ?_
      refine g_aload_n C dX7_unlock_36 rfl 1 rfl ?_
      refine g_get (v := .ref (ad 1)) C iX7 (by decide) (mk_0 (by decide)) rfl 0 (by decide) L10 rfl dX7_unlock_37 ?_
      refine g_callV (rest := []) (st1 := []) C (c_X1_record 1 isS_1 ω hst) (cwV 1 C.hts gX7_unlock_X1_record rfl rfl rfl md_X1_record ⟨Nat.le_of_ble_eq_true rfl, Nat.le_of_ble_eq_true rfl⟩) (by decide) (mk_7 (by decide)) rfl rfl rfl rfl rfl (Nat.le_of_ble_eq_true rfl) dX7_unlock_40 (Nat.zero_le _) (Nat.zero_le _) ?_
      refine g_aload_n C dX7_unlock_43 rfl 0 rfl ?_
      refine g_iconst (v := 0) C dX7_unlock_44 (by decide) ?_
      refine g_put C iX0 tyX0 tyX0_ok nmX0 ((isS_1.bn (by omega))).1 (mk_4 ((isS_1.bn (by omega))).2) rfl 6 (by decide) L151 rfl (nar_b (by decide)).1 (nar_b (by decide)).2 (Nat.le_of_ble_eq_true rfl) dX7_unlock_45 ?_
      refine gv_eqG (mkp_4_6 ((isS_1.bn (by omega))).2 (by decide)) ?_
      refine g_aload_n C dX7_unlock_48 rfl 0 rfl ?_
      refine g_iconst (v := 0) C dX7_unlock_49 (by decide) ?_
      refine g_put C iX0 tyX0 tyX0_ok nmX0 ((isS_1.bn (by omega))).1 (mk_4 ((isS_1.bn (by omega))).2) rfl 7 (by decide) L154 rfl rfl rfl (Nat.le_of_ble_eq_true rfl) dX7_unlock_50 ?_
      refine gv_eqG (mkp_4_7 ((isS_1.bn (by omega))).2) ?_
      refine g_aload_n C dX7_unlock_53 rfl 1 rfl ?_
      refine g_get (v := .ref (ad 1)) C iX7 (by decide) (mk_0 (by decide)) rfl 0 (by decide) L10 rfl dX7_unlock_54 ?_
      refine g_callV (rest := []) (st1 := [.int (f_X5_lockedBurners 1 (st (st (f_X1_record 1 ω) (5 + k) 6 0) (5 + k) 7 0))]) C (c_X5_lockedBurners 1 isS_1 (st (st (f_X1_record 1 ω) (5 + k) 6 0) (5 + k) 7 0)) (cwV 0 C.hts gX7_unlock_X5_lockedBurners rfl rfl rfl md_X5_lockedBurners ⟨Nat.le_of_ble_eq_true rfl, Nat.le_of_ble_eq_true rfl⟩) (by decide) (mk_1 (by decide)) rfl rfl rfl rfl rfl (Nat.le_of_ble_eq_true rfl) dX7_unlock_57 (Nat.zero_le _) (Nat.zero_le _) ?_
      exact g_iret C hret hlk (e1.trans (pr1 (v := (f_X5_lockedBurners 1 (st (st (f_X1_record 1 ω) (5 + k) 6 0) (5 + k) 7 0))) (w := (st (st (f_X1_record 1 ω) (5 + k) 6 0) (5 + k) 7 0)) ((if_neg h1).trans ((if_pos h2).trans rfl)))) (e2.trans (pr2 (v := (f_X5_lockedBurners 1 (st (st (f_X1_record 1 ω) (5 + k) 6 0) (5 + k) 7 0))) (w := (st (st (f_X1_record 1 ω) (5 + k) 6 0) (5 + k) 7 0)) ((if_neg h1).trans ((if_pos h2).trans rfl)))) dX7_unlock_60
    · refine g_bipush (v := (-4)) C dX7_unlock_29 (by decide) ?_
      exact g_iret C hret hlk (e1.trans (pr1 (v := (-4)) (w := ω) ((if_neg h1).trans ((if_neg h2).trans rfl)))) (e2.trans (pr2 (v := (-4)) (w := ω) ((if_neg h1).trans ((if_neg h2).trans rfl)))) dX7_unlock_31
def f_X7_unlockB (x : Int32) (ω : Mem) : Int32 := (-1)
set_option maxRecDepth 100000 in
set_option maxHeartbeats 4000000 in
theorem c_X7_unlockB {l_ : Launch} {sa : Nat → Nat} {D : va_G} {X : Nat → ClassId} {ad : Nat → Nat} (x : Int32) (hbad : x < 0 ∨ 4 ≤ x) (ω : Mem)  : CT l_ yX7_unlock wsX7_unlock rm_X7_unlock sa D (tyX X) 120 ad (mk X ad ω) [.ref (ad 0), .int x] (some (.int (f_X7_unlockB x ω)) : Option Value) (mk X ad ω) := by
  refine ct_of [(0, .ref (ad 0)), (1, .int x)] (by decide +kernel) rfl rfl (Nat.le_of_ble_eq_true rfl) rfl ?_
  intro p_ e_ s_ m_ args_ below_ meth_ c_ C hret hlk hin
  have e1 : (some (.int (f_X7_unlockB x ω)) : Option Value) = (some (.int (f_X7_unlockB x ω)) : Option Value) := rfl
  have e2 : mk X ad ω = mk X ad ω := rfl
  have iX7 : ∀ w ∈ u_ws RX7 TX7 7, w ∈ wsX7_unlock := by decide +kernel
  have L10 : Cond.fieldLink RX7 10 (TX7 0).1 (TX7 0).2.1 (TX7 0).2.2.1 ∈ wsX7_unlock := by decide +kernel
  refine g_aload_n C dX7_unlock_0 rfl 0 rfl ?_
  refine g_get (v := .ref (ad 1)) C iX7 (by decide) (mk_0 (by decide)) rfl 0 (by decide) L10 rfl dX7_unlock_1 ?_
  refine g_iload_n C dX7_unlock_4 rfl 1 rfl ?_
  refine g_callV (rest := []) (st1 := [.null]) C (c_X5_findB 1 x isS_1 hbad ω) (cwV 1 C.hts gX7_unlock_X5_find rfl rfl rfl md_X5_find ⟨Nat.le_of_ble_eq_true rfl, Nat.le_of_ble_eq_true rfl⟩) (by decide) (mk_1 (by decide)) rfl rfl rfl rfl rfl (Nat.le_of_ble_eq_true rfl) dX7_unlock_5 (Nat.zero_le _) (Nat.zero_le _) ?_
  refine g_astoreN_n (lv' := [(2, .null), (0, .ref (ad 0)), (1, .int x)]) C dX7_unlock_8 rfl (by decide) rfl ?_
  refine g_aloadN_n C dX7_unlock_9 rfl 0 rfl ?_
  refine g_ifnonnullN C dX7_unlock_10 ?_
  refine g_iconst (v := (-1)) C dX7_unlock_13 (by decide) ?_
  exact g_iret C hret hlk (e1.trans (congrArg (fun z => some (Value.int z)) rfl)) e2 dX7_unlock_14
