abbrev rm_X7_pass : Room := { frames := 6, cells := 0, slots := 0, locals := 131 }
theorem md_X7_pass : yX7_pass.cls = RX7 ∧ yX7_pass.cls ≠ "java/lang/invoke/MethodHandle" ∧ yX7_pass.cls ≠ "java/lang/invoke/VarHandle" ∧ (parseMethodDescriptor yX7_pass.desc).map (fun d => d.parameters.length) = some 1 := by decide +kernel
def f_X7_pass_55 : Nat → Nat → Int32 → Nat → Mem → Int32 × Mem
  | 0, _, _, _, ω => (0, ω)
  | fu + 1, t, v, j, ω => (if t ≤ j then (((f_X2_total 12 ω) - v), ω) else (f_X7_pass_55 fu t v (j + 1) (f_X5_passTick 1 ω)))
set_option maxRecDepth 100000 in
set_option maxHeartbeats 4000000 in
theorem k_X7_pass_55 {l_ : Launch} {p_ : Program} {e_ : Env} {s_ : State} {m_ : MethodId} {args_ : Array Value} {below_ : List Frame} {meth_ : Method} {c_ : Code} {sa : Nat → Nat} {D : va_G} {X : Nat → ClassId} {ad : Nat → Nat} {G0 : Nat → va_E} (fu : Nat) (t : Nat) (ht : 1 ≤ t ∧ t ≤ 200) (C : GC p_ rm_X7_pass s_ m_ args_ meth_ c_ cX7_pass 4 wsX7_pass RX7 sa D (tyX X) (va_A (gw 120 ad G0) s_.heap.size)) (hret : meth_.sig.returnType = (some .int)) (hlk : meth_.locks = false) : ∀ (v : Int32) (j : Nat) (ω : Mem) (hj : j ≤ t) (hfuel : t < j + fu) (rv : Option Value) (G2 : Nat → va_E) (e1 : rv = some (.int (f_X7_pass_55 fu t v j ω).1)) (e2 : G2 = mk X ad (f_X7_pass_55 fu t v j ω).2), GV p_ l_ e_ rm_X7_pass s_ m_ args_ below_ meth_ c_ 0 0 (CQ below_ args_ s_ D 120 ad G0 rv G2) D (va_A (gw 120 ad G0) s_.heap.size) 4 120 ad (mk X ad ω) [(0, .ref (ad 0)), (1, .int (nI (t))), (2, .int v), (3, .int (nI (j)))] 55 [] := by
  have iX5 : ∀ w ∈ u_ws RX5 TX5 8, w ∈ wsX7_pass := by decide +kernel
  have iX7 : ∀ w ∈ u_ws RX7 TX7 7, w ∈ wsX7_pass := by decide +kernel
  have L10 : Cond.fieldLink RX7 10 (TX7 0).1 (TX7 0).2.1 (TX7 0).2.2.1 ∈ wsX7_pass := by decide +kernel
  have L164 : Cond.fieldLink RX7 164 (TX5 3).1 (TX5 3).2.1 (TX5 3).2.2.1 ∈ wsX7_pass := by decide +kernel
  induction fu with
  | zero =>
    intro v j ω hj hfuel rv G2 e1 e2
    exact absurd hfuel (by omega)
  | succ fu ih =>
    intro v j ω hj hfuel rv G2 e1 e2
    refine g_iload_n C dX7_pass_55 rfl 3 rfl ?_
    refine g_iload_n C dX7_pass_56 rfl 1 rfl ?_
    refine g_icmp_ge (tgt := 73) C dX7_pass_57 (by decide) (fun h1 => ?_) (fun h1 => ?_)
    · have h1n := (nI_leI (a := t) (b := j) (by omega) (by omega)).mp h1
      refine g_aload_n C dX7_pass_73 rfl 0 rfl ?_
      refine g_get (v := .ref (ad 1)) C iX7 (by decide) (mk_0 (by decide)) rfl 0 (by decide) L10 rfl dX7_pass_74 ?_
      refine g_get (v := .ref (ad 12)) C iX5 (by decide) (mk_1 (by decide)) rfl 3 (by decide) L164 rfl dX7_pass_77 ?_
      refine g_callV (rest := []) (st1 := [.int (f_X2_total 12 ω)]) C (c_X2_total 12 (by unfold isLg isR; decide) ω) (cwV 0 C.hts gX7_pass_X2_total rfl rfl rfl md_X2_total ⟨Nat.le_of_ble_eq_true rfl, Nat.le_of_ble_eq_true rfl⟩) (by decide) (mk_6 (by decide)) rfl rfl rfl rfl rfl (Nat.le_of_ble_eq_true rfl) dX7_pass_80 (Nat.zero_le _) (Nat.zero_le _) ?_
      refine g_iload_n C dX7_pass_83 rfl 2 rfl ?_
      refine g_isub (v := ((f_X2_total 12 ω) - v)) C dX7_pass_84 rfl ?_
      exact g_iret C hret hlk (e1.trans (pr1 (v := ((f_X2_total 12 ω) - v)) (w := ω) ((if_pos h1n).trans rfl))) (e2.trans (pr2 (v := ((f_X2_total 12 ω) - v)) (w := ω) ((if_pos h1n).trans rfl))) dX7_pass_85
    · have h1n := (not_congr (nI_leI (a := t) (b := j) (by omega) (by omega))).mp h1
      refine g_aload_n C dX7_pass_60 rfl 0 rfl ?_
      refine g_get (v := .ref (ad 1)) C iX7 (by decide) (mk_0 (by decide)) rfl 0 (by decide) L10 rfl dX7_pass_61 ?_
      refine g_callV (rest := []) (st1 := []) C (c_X5_passTick 1 isS_1 ω) (cwV 0 C.hts gX7_pass_X5_passTick rfl rfl rfl md_X5_passTick ⟨Nat.le_of_ble_eq_true rfl, Nat.le_of_ble_eq_true rfl⟩) (by decide) (mk_1 (by decide)) rfl rfl rfl rfl rfl (Nat.le_of_ble_eq_true rfl) dX7_pass_64 (Nat.zero_le _) (Nat.zero_le _) ?_
      refine g_iinc (k := 3) (v := (nI (j + 1))) (lv' := [(3, .int (nI (j + 1))), (0, .ref (ad 0)), (1, .int (nI (t))), (2, .int v)]) C dX7_pass_67 rfl (nI_1 (j)) (by decide) rfl ?_
      refine g_goto (tgt := 55) C dX7_pass_70 (by decide) ?_
      refine gv_lv (lv' := [(0, .ref (ad 0)), (1, .int (nI (t))), (2, .int v), (3, .int (nI (j + 1)))]) [1, 2, 3, 0] rfl ?_
      exact ih v (j + 1) (f_X5_passTick 1 ω) (by omega) (by omega) _ _ (e1.trans (congrArg (fun z : Int32 × Mem => some (Value.int z.1)) ((if_neg h1n).trans rfl))) (e2.trans (congrArg (fun z : Int32 × Mem => mk X ad z.2) ((if_neg h1n).trans rfl)))
def f_X7_pass (t : Nat) (ω : Mem) : Int32 × Mem := (if (f_X7_isWithin (nI (t)) 1 200 ω) = 0 then ((-2), ω) else (if ((ω 1 4) + (nI (t))) ≤ 99999 then (f_X7_pass_55 201 t (f_X2_total 12 (f_X1_record 1 ω)) 0 (f_X1_record 1 ω)) else ((-3), ω)))
set_option maxRecDepth 100000 in
set_option maxHeartbeats 4000000 in
theorem c_X7_pass {l_ : Launch} {sa : Nat → Nat} {D : va_G} {X : Nat → ClassId} {ad : Nat → Nat} (t : Nat) (ht : 1 ≤ t ∧ t ≤ 200) (ω : Mem) (hst : hstP ω) : CT l_ yX7_pass wsX7_pass rm_X7_pass sa D (tyX X) 120 ad (mk X ad ω) [.ref (ad 0), .int (nI (t))] (some (.int (f_X7_pass t ω).1) : Option Value) (mk X ad (f_X7_pass t ω).2) := by
  refine ct_of [(0, .ref (ad 0)), (1, .int (nI (t)))] (by decide +kernel) rfl rfl (Nat.le_of_ble_eq_true rfl) rfl ?_
  intro p_ e_ s_ m_ args_ below_ meth_ c_ C hret hlk hin
  have e1 : (some (.int (f_X7_pass t ω).1) : Option Value) = (some (.int (f_X7_pass t ω).1) : Option Value) := rfl
  have e2 : mk X ad (f_X7_pass t ω).2 = mk X ad (f_X7_pass t ω).2 := rfl
  have iX5 : ∀ w ∈ u_ws RX5 TX5 8, w ∈ wsX7_pass := by decide +kernel
  have iX7 : ∀ w ∈ u_ws RX7 TX7 7, w ∈ wsX7_pass := by decide +kernel
  have K163 : Cond.constant RX7 163 99999 ∈ wsX7_pass := by decide +kernel
  have L10 : Cond.fieldLink RX7 10 (TX7 0).1 (TX7 0).2.1 (TX7 0).2.2.1 ∈ wsX7_pass := by decide +kernel
  have L160 : Cond.fieldLink RX7 160 (TX5 4).1 (TX5 4).2.1 (TX5 4).2.2.1 ∈ wsX7_pass := by decide +kernel
  have L164 : Cond.fieldLink RX7 164 (TX5 3).1 (TX5 3).2.1 (TX5 3).2.2.1 ∈ wsX7_pass := by decide +kernel
  have L32 : Cond.fieldLink RX7 32 (TX7 4).1 (TX7 4).2.1 (TX7 4).2.2.1 ∈ wsX7_pass := by decide +kernel
  refine g_iload_n C dX7_pass_0 rfl 1 rfl ?_
  refine g_iconst (v := 1) C dX7_pass_1 (by decide) ?_
  refine g_sipush (v := 200) C dX7_pass_2 (by decide) ?_
  refine g_callS (rest := []) (st1 := [.int (f_X7_isWithin (nI (t)) 1 200 ω)]) C (c_X7_isWithin (nI (t)) 1 200 ω) (va_cwS 3 C.hts gX7_pass_X7_isWithin rfl rfl rfl md_X7_isWithin.2 ⟨Nat.le_of_ble_eq_true rfl, Nat.le_of_ble_eq_true rfl⟩) rfl rfl rfl (Nat.le_of_ble_eq_true rfl) dX7_pass_5 (Nat.zero_le _) (Nat.zero_le _) ?_
  refine g_if_ne (tgt := 14) C dX7_pass_8 (by decide) (fun h1 => ?_) (fun h1 => ?_)
  · refine g_aload_n C dX7_pass_14 rfl 0 rfl ?_
    refine g_get (v := .ref (ad 1)) C iX7 (by decide) (mk_0 (by decide)) rfl 0 (by decide) L10 rfl dX7_pass_15 ?_
    refine g_get (v := .int (ω 1 4)) C iX5 (by decide) (mk_1 (by decide)) rfl 4 (by decide) L160 rfl dX7_pass_18 ?_
    refine g_iload_n C dX7_pass_21 rfl 1 rfl ?_
    refine g_iadd (v := ((ω 1 4) + (nI (t)))) C dX7_pass_22 rfl ?_
    refine g_ldc (v := 99999) C (C.hts _ K163) dX7_pass_23 ?_
    refine g_icmp_le (tgt := 31) C dX7_pass_25 (by decide) (fun h2 => ?_) (fun h2 => ?_)
    · refine g_aload_n C dX7_pass_31 rfl 0 rfl ?_
      refine g_get (v := .ref (ad 52)) C iX7 (by decide) (mk_0 (by decide)) rfl 4 (by decide) L32 rfl dX7_pass_32 ?_
      refine g_aload_n C dX7_pass_35 rfl 0 rfl ?_
      refine g_get (v := .ref (ad 1)) C iX7 (by decide) (mk_0 (by decide)) rfl 0 (by decide) L10 rfl dX7_pass_36 ?_
      refine g_callV (rest := []) (st1 := []) C (c_X1_record 1 isS_1 ω hst) (cwV 1 C.hts gX7_pass_X1_record rfl rfl rfl md_X1_record ⟨Nat.le_of_ble_eq_true rfl, Nat.le_of_ble_eq_true rfl⟩) (by decide) (mk_7 (by decide)) rfl rfl rfl rfl rfl (Nat.le_of_ble_eq_true rfl) dX7_pass_39 (Nat.zero_le _) (Nat.zero_le _) ?_
      refine g_aload_n C dX7_pass_42 rfl 0 rfl ?_
      refine g_get (v := .ref (ad 1)) C iX7 (by decide) (mk_0 (by decide)) rfl 0 (by decide) L10 rfl dX7_pass_43 ?_
      refine g_get (v := .ref (ad 12)) C iX5 (by decide) (mk_1 (by decide)) rfl 3 (by decide) L164 rfl dX7_pass_46 ?_
      refine g_callV (rest := []) (st1 := [.int (f_X2_total 12 (f_X1_record 1 ω))]) C (c_X2_total 12 (by unfold isLg isR; decide) (f_X1_record 1 ω)) (cwV 0 C.hts gX7_pass_X2_total rfl rfl rfl md_X2_total ⟨Nat.le_of_ble_eq_true rfl, Nat.le_of_ble_eq_true rfl⟩) (by decide) (mk_6 (by decide)) rfl rfl rfl rfl rfl (Nat.le_of_ble_eq_true rfl) dX7_pass_49 (Nat.zero_le _) (Nat.zero_le _) ?_
      refine g_istore_n (lv' := [(2, .int (f_X2_total 12 (f_X1_record 1 ω))), (0, .ref (ad 0)), (1, .int (nI (t)))]) C dX7_pass_52 rfl (by decide) rfl ?_
      refine g_iconst (v := 0) C dX7_pass_53 (by decide) ?_
      refine g_istore_n (lv' := [(3, .int 0), (2, .int (f_X2_total 12 (f_X1_record 1 ω))), (0, .ref (ad 0)), (1, .int (nI (t)))]) C dX7_pass_54 rfl (by decide) rfl ?_
      refine gv_lv (lv' := [(0, .ref (ad 0)), (1, .int (nI (t))), (2, .int (f_X2_total 12 (f_X1_record 1 ω))), (3, .int 0)]) [2, 3, 1, 0] rfl ?_
      exact k_X7_pass_55 (201) t ht C hret hlk (f_X2_total 12 (f_X1_record 1 ω)) 0 (f_X1_record 1 ω) (by omega) (by omega) _ _ (e1.trans (congrArg (fun z : Int32 × Mem => some (Value.int z.1)) ((if_neg h1).trans ((if_pos h2).trans rfl)))) (e2.trans (congrArg (fun z : Int32 × Mem => mk X ad z.2) ((if_neg h1).trans ((if_pos h2).trans rfl))))
    · refine g_bipush (v := (-3)) C dX7_pass_28 (by decide) ?_
      exact g_iret C hret hlk (e1.trans (pr1 (v := (-3)) (w := ω) ((if_neg h1).trans ((if_neg h2).trans rfl)))) (e2.trans (pr2 (v := (-3)) (w := ω) ((if_neg h1).trans ((if_neg h2).trans rfl)))) dX7_pass_30
  · refine g_bipush (v := (-2)) C dX7_pass_11 (by decide) ?_
    exact g_iret C hret hlk (e1.trans (pr1 (v := (-2)) (w := ω) ((if_pos h1).trans rfl))) (e2.trans (pr2 (v := (-2)) (w := ω) ((if_pos h1).trans rfl))) dX7_pass_13
def f_X7_passB (x : Int32) (ω : Mem) : Int32 := (-2)
set_option maxRecDepth 100000 in
set_option maxHeartbeats 4000000 in
theorem c_X7_passB {l_ : Launch} {sa : Nat → Nat} {D : va_G} {X : Nat → ClassId} {ad : Nat → Nat} (x : Int32) (hbad : x < 1 ∨ 200 < x) (ω : Mem)  : CT l_ yX7_pass wsX7_pass rm_X7_pass sa D (tyX X) 120 ad (mk X ad ω) [.ref (ad 0), .int x] (some (.int (f_X7_passB x ω)) : Option Value) (mk X ad ω) := by
  refine ct_of [(0, .ref (ad 0)), (1, .int x)] (by decide +kernel) rfl rfl (Nat.le_of_ble_eq_true rfl) rfl ?_
  intro p_ e_ s_ m_ args_ below_ meth_ c_ C hret hlk hin
  have e1 : (some (.int (f_X7_passB x ω)) : Option Value) = (some (.int (f_X7_passB x ω)) : Option Value) := rfl
  have e2 : mk X ad ω = mk X ad ω := rfl
  refine g_iload_n C dX7_pass_0 rfl 1 rfl ?_
  refine g_iconst (v := 1) C dX7_pass_1 (by decide) ?_
  refine g_sipush (v := 200) C dX7_pass_2 (by decide) ?_
  refine g_callS (rest := []) (st1 := [.int (f_X7_isWithin x 1 200 ω)]) C (c_X7_isWithin x 1 200 ω) (va_cwS 3 C.hts gX7_pass_X7_isWithin rfl rfl rfl md_X7_isWithin.2 ⟨Nat.le_of_ble_eq_true rfl, Nat.le_of_ble_eq_true rfl⟩) rfl rfl rfl (Nat.le_of_ble_eq_true rfl) dX7_pass_5 (Nat.zero_le _) (Nat.zero_le _) ?_
  refine g_if_ne (tgt := 14) C dX7_pass_8 (by decide) (fun z => absurd (isW_bad hbad) z) (fun _ => ?_)
  refine g_bipush (v := (-2)) C dX7_pass_11 (by decide) ?_
  exact g_iret C hret hlk (e1.trans (congrArg (fun z => some (Value.int z)) rfl)) e2 dX7_pass_13
def f_X7_type (c : Int32) (ω : Mem) : Int32 × Mem := (if (f_X6_append c ω).1 = 0 then ((-3), (f_X6_append c ω).2) else (((f_X6_append c ω).2 118 1), (f_X6_append c ω).2))
def f_X7_clearText  (ω : Mem) : Int32 × Mem := ((ω 118 1), (f_X6_empty ω))
abbrev rm_X7_undo : Room := { frames := 5, cells := 0, slots := 0, locals := 103 }
theorem md_X7_undo : yX7_undo.cls = RX7 ∧ yX7_undo.cls ≠ "java/lang/invoke/MethodHandle" ∧ yX7_undo.cls ≠ "java/lang/invoke/VarHandle" ∧ (parseMethodDescriptor yX7_undo.desc).map (fun d => d.parameters.length) = some 0 := by decide +kernel
def f_X7_undo  (ω : Mem) : Int32 × Mem := (if (f_X1_takeBack 1 ω).1 = 0 then ((-5), (f_X1_takeBack 1 ω).2) else (((f_X1_takeBack 1 ω).2 52 1), (f_X1_takeBack 1 ω).2))
set_option maxRecDepth 100000 in
set_option maxHeartbeats 4000000 in
theorem c_X7_undo {l_ : Launch} {sa : Nat → Nat} {D : va_G} {X : Nat → ClassId} {ad : Nat → Nat}  (ω : Mem) (hst : hstP ω) : CT l_ yX7_undo wsX7_undo rm_X7_undo sa D (tyX X) 120 ad (mk X ad ω) [.ref (ad 0)] (some (.int (f_X7_undo ω).1) : Option Value) (mk X ad (f_X7_undo ω).2) := by
  refine ct_of [(0, .ref (ad 0))] (by decide +kernel) rfl rfl (Nat.le_of_ble_eq_true rfl) rfl ?_
  intro p_ e_ s_ m_ args_ below_ meth_ c_ C hret hlk hin
  have e1 : (some (.int (f_X7_undo ω).1) : Option Value) = (some (.int (f_X7_undo ω).1) : Option Value) := rfl
  have e2 : mk X ad (f_X7_undo ω).2 = mk X ad (f_X7_undo ω).2 := rfl
  have iX1 : ∀ w ∈ u_ws RX1 TX1 2, w ∈ wsX7_undo := by decide +kernel
  have iX7 : ∀ w ∈ u_ws RX7 TX7 7, w ∈ wsX7_undo := by decide +kernel
  have L10 : Cond.fieldLink RX7 10 (TX7 0).1 (TX7 0).2.1 (TX7 0).2.2.1 ∈ wsX7_undo := by decide +kernel
  have L190 : Cond.fieldLink RX7 190 (TX1 1).1 (TX1 1).2.1 (TX1 1).2.2.1 ∈ wsX7_undo := by decide +kernel
  have L32 : Cond.fieldLink RX7 32 (TX7 4).1 (TX7 4).2.1 (TX7 4).2.2.1 ∈ wsX7_undo := by decide +kernel
  refine g_aload_n C dX7_undo_0 rfl 0 rfl ?_
  refine g_get (v := .ref (ad 52)) C iX7 (by decide) (mk_0 (by decide)) rfl 4 (by decide) L32 rfl dX7_undo_1 ?_
  refine g_aload_n C dX7_undo_4 rfl 0 rfl ?_
  refine g_get (v := .ref (ad 1)) C iX7 (by decide) (mk_0 (by decide)) rfl 0 (by decide) L10 rfl dX7_undo_5 ?_
  refine g_callV (rest := []) (st1 := [.int (f_X1_takeBack 1 ω).1]) C (c_X1_takeBack 1 isS_1 ω hst) (cwV 1 C.hts gX7_undo_X1_takeBack rfl rfl rfl md_X1_takeBack ⟨Nat.le_of_ble_eq_true rfl, Nat.le_of_ble_eq_true rfl⟩) (by decide) (mk_7 (by decide)) rfl rfl rfl rfl rfl (Nat.le_of_ble_eq_true rfl) dX7_undo_8 (Nat.zero_le _) (Nat.zero_le _) ?_
  refine g_if_ne (tgt := 17) C dX7_undo_11 (by decide) (fun h1 => ?_) (fun h1 => ?_)
  · refine g_aload_n C dX7_undo_17 rfl 0 rfl ?_
    refine g_get (v := .ref (ad 52)) C iX7 (by decide) (mk_0 (by decide)) rfl 4 (by decide) L32 rfl dX7_undo_18 ?_
    refine g_get (v := .int ((f_X1_takeBack 1 ω).2 52 1)) C iX1 (by decide) (mk_7 (by decide)) rfl 1 (by decide) L190 rfl dX7_undo_21 ?_
    exact g_iret C hret hlk (e1.trans (pr1 (v := ((f_X1_takeBack 1 ω).2 52 1)) (w := (f_X1_takeBack 1 ω).2) ((if_neg h1).trans rfl))) (e2.trans (pr2 (v := ((f_X1_takeBack 1 ω).2 52 1)) (w := (f_X1_takeBack 1 ω).2) ((if_neg h1).trans rfl))) dX7_undo_24
  · refine g_bipush (v := (-5)) C dX7_undo_14 (by decide) ?_
    exact g_iret C hret hlk (e1.trans (pr1 (v := (-5)) (w := (f_X1_takeBack 1 ω).2) ((if_pos h1).trans rfl))) (e2.trans (pr2 (v := (-5)) (w := (f_X1_takeBack 1 ω).2) ((if_pos h1).trans rfl))) dX7_undo_16
abbrev rm_X7_keep : Room := { frames := 4, cells := 0, slots := 0, locals := 82 }
theorem md_X7_keep : yX7_keep.cls = RX7 ∧ yX7_keep.cls ≠ "java/lang/invoke/MethodHandle" ∧ yX7_keep.cls ≠ "java/lang/invoke/VarHandle" ∧ (parseMethodDescriptor yX7_keep.desc).map (fun d => d.parameters.length) = some 0 := by decide +kernel
def f_X7_keep  (ω : Mem) : Int32 × Mem := (((st (f_X5_copyFrom 17 1 ω) 0 6 1) 1 4), (st (f_X5_copyFrom 17 1 ω) 0 6 1))
set_option maxRecDepth 100000 in
set_option maxHeartbeats 4000000 in
theorem c_X7_keep {l_ : Launch} {sa : Nat → Nat} {D : va_G} {X : Nat → ClassId} {ad : Nat → Nat}  (ω : Mem)  : CT l_ yX7_keep wsX7_keep rm_X7_keep sa D (tyX X) 120 ad (mk X ad ω) [.ref (ad 0)] (some (.int (f_X7_keep ω).1) : Option Value) (mk X ad (f_X7_keep ω).2) := by
  refine ct_of [(0, .ref (ad 0))] (by decide +kernel) rfl rfl (Nat.le_of_ble_eq_true rfl) rfl ?_
  intro p_ e_ s_ m_ args_ below_ meth_ c_ C hret hlk hin
  have e1 : (some (.int (f_X7_keep ω).1) : Option Value) = (some (.int (f_X7_keep ω).1) : Option Value) := rfl
  have e2 : mk X ad (f_X7_keep ω).2 = mk X ad (f_X7_keep ω).2 := rfl
  have iX5 : ∀ w ∈ u_ws RX5 TX5 8, w ∈ wsX7_keep := by decide +kernel
  have iX7 : ∀ w ∈ u_ws RX7 TX7 7, w ∈ wsX7_keep := by decide +kernel
  have L10 : Cond.fieldLink RX7 10 (TX7 0).1 (TX7 0).2.1 (TX7 0).2.2.1 ∈ wsX7_keep := by decide +kernel
  have L16 : Cond.fieldLink RX7 16 (TX7 1).1 (TX7 1).2.1 (TX7 1).2.2.1 ∈ wsX7_keep := by decide +kernel
  have L160 : Cond.fieldLink RX7 160 (TX5 4).1 (TX5 4).2.1 (TX5 4).2.2.1 ∈ wsX7_keep := by decide +kernel
  have L43 : Cond.fieldLink RX7 43 (TX7 6).1 (TX7 6).2.1 (TX7 6).2.2.1 ∈ wsX7_keep := by decide +kernel
  refine g_aload_n C dX7_keep_0 rfl 0 rfl ?_
  refine g_get (v := .ref (ad 17)) C iX7 (by decide) (mk_0 (by decide)) rfl 1 (by decide) L16 rfl dX7_keep_1 ?_
  refine g_aload_n C dX7_keep_4 rfl 0 rfl ?_
  refine g_get (v := .ref (ad 1)) C iX7 (by decide) (mk_0 (by decide)) rfl 0 (by decide) L10 rfl dX7_keep_5 ?_
  refine g_callV (rest := []) (st1 := []) C (c_X5_copyFrom 17 1 isS_17 isS_1 ω) (cwV 1 C.hts gX7_keep_X5_copyFrom rfl rfl rfl md_X5_copyFrom ⟨Nat.le_of_ble_eq_true rfl, Nat.le_of_ble_eq_true rfl⟩) (by decide) (mk_1 (by decide)) rfl rfl rfl rfl rfl (Nat.le_of_ble_eq_true rfl) dX7_keep_8 (Nat.zero_le _) (Nat.zero_le _) ?_
  refine g_aload_n C dX7_keep_11 rfl 0 rfl ?_
  refine g_iconst (v := 1) C dX7_keep_12 (by decide) ?_
  refine g_put C iX7 tyX7 tyX7_ok nmX7 (by decide) (mk_0 (by decide)) rfl 6 (by decide) L43 rfl (nar_b (by decide)).1 (nar_b (by decide)).2 (Nat.le_of_ble_eq_true rfl) dX7_keep_13 ?_
  refine gv_eqG (mkp_0_6 (by decide) (by decide)) ?_
  refine g_aload_n C dX7_keep_16 rfl 0 rfl ?_
  refine g_get (v := .ref (ad 1)) C iX7 (by decide) (mk_0 (by decide)) rfl 0 (by decide) L10 rfl dX7_keep_17 ?_
  refine g_get (v := .int ((st (f_X5_copyFrom 17 1 ω) 0 6 1) 1 4)) C iX5 (by decide) (mk_1 (by decide)) rfl 4 (by decide) L160 rfl dX7_keep_20 ?_
  exact g_iret C hret hlk (e1.trans (pr1 (v := ((st (f_X5_copyFrom 17 1 ω) 0 6 1) 1 4)) (w := (st (f_X5_copyFrom 17 1 ω) 0 6 1)) rfl)) (e2.trans (pr2 (v := ((st (f_X5_copyFrom 17 1 ω) 0 6 1) 1 4)) (w := (st (f_X5_copyFrom 17 1 ω) 0 6 1)) rfl)) dX7_keep_23
abbrev rm_X7_restore : Room := { frames := 5, cells := 0, slots := 0, locals := 103 }
theorem md_X7_restore : yX7_restore.cls = RX7 ∧ yX7_restore.cls ≠ "java/lang/invoke/MethodHandle" ∧ yX7_restore.cls ≠ "java/lang/invoke/VarHandle" ∧ (parseMethodDescriptor yX7_restore.desc).map (fun d => d.parameters.length) = some 0 := by decide +kernel
def f_X7_restore  (ω : Mem) : Int32 × Mem := (if (bb (ω 0 6)) = 0 then ((-5), ω) else (((f_X5_copyFrom 1 17 (f_X1_record 1 ω)) 1 4), (f_X5_copyFrom 1 17 (f_X1_record 1 ω))))
set_option maxRecDepth 100000 in
set_option maxHeartbeats 4000000 in
theorem c_X7_restore {l_ : Launch} {sa : Nat → Nat} {D : va_G} {X : Nat → ClassId} {ad : Nat → Nat}  (ω : Mem) (hst : hstP ω) : CT l_ yX7_restore wsX7_restore rm_X7_restore sa D (tyX X) 120 ad (mk X ad ω) [.ref (ad 0)] (some (.int (f_X7_restore ω).1) : Option Value) (mk X ad (f_X7_restore ω).2) := by
  refine ct_of [(0, .ref (ad 0))] (by decide +kernel) rfl rfl (Nat.le_of_ble_eq_true rfl) rfl ?_
  intro p_ e_ s_ m_ args_ below_ meth_ c_ C hret hlk hin
  have e1 : (some (.int (f_X7_restore ω).1) : Option Value) = (some (.int (f_X7_restore ω).1) : Option Value) := rfl
  have e2 : mk X ad (f_X7_restore ω).2 = mk X ad (f_X7_restore ω).2 := rfl
  have iX5 : ∀ w ∈ u_ws RX5 TX5 8, w ∈ wsX7_restore := by decide +kernel
  have iX7 : ∀ w ∈ u_ws RX7 TX7 7, w ∈ wsX7_restore := by decide +kernel
  have L10 : Cond.fieldLink RX7 10 (TX7 0).1 (TX7 0).2.1 (TX7 0).2.2.1 ∈ wsX7_restore := by decide +kernel
  have L16 : Cond.fieldLink RX7 16 (TX7 1).1 (TX7 1).2.1 (TX7 1).2.2.1 ∈ wsX7_restore := by decide +kernel
  have L160 : Cond.fieldLink RX7 160 (TX5 4).1 (TX5 4).2.1 (TX5 4).2.2.1 ∈ wsX7_restore := by decide +kernel
  have L32 : Cond.fieldLink RX7 32 (TX7 4).1 (TX7 4).2.1 (TX7 4).2.2.1 ∈ wsX7_restore := by decide +kernel
  have L43 : Cond.fieldLink RX7 43 (TX7 6).1 (TX7 6).2.1 (TX7 6).2.2.1 ∈ wsX7_restore := by decide +kernel
  refine g_aload_n C dX7_restore_0 rfl 0 rfl ?_
  refine g_get (v := .int (bb (ω 0 6))) C iX7 (by decide) (mk_0 (by decide)) rfl 6 (by decide) L43 rfl dX7_restore_1 ?_
  refine g_if_ne (tgt := 10) C dX7_restore_4 (by decide) (fun h1 => ?_) (fun h1 => ?_)
  · refine g_aload_n C dX7_restore_10 rfl 0 rfl ?_
    refine g_get (v := .ref (ad 52)) C iX7 (by decide) (mk_0 (by decide)) rfl 4 (by decide) L32 rfl dX7_restore_11 ?_
    refine g_aload_n C dX7_restore_14 rfl 0 rfl ?_
    refine g_get (v := .ref (ad 1)) C iX7 (by decide) (mk_0 (by decide)) rfl 0 (by decide) L10 rfl dX7_restore_15 ?_
    refine g_callV (rest := []) (st1 := []) C (c_X1_record 1 isS_1 ω hst) (cwV 1 C.hts gX7_restore_X1_record rfl rfl rfl md_X1_record ⟨Nat.le_of_ble_eq_true rfl, Nat.le_of_ble_eq_true rfl⟩) (by decide) (mk_7 (by decide)) rfl rfl rfl rfl rfl (Nat.le_of_ble_eq_true rfl) dX7_restore_18 (Nat.zero_le _) (Nat.zero_le _) ?_
    refine g_aload_n C dX7_restore_21 rfl 0 rfl ?_
    refine g_get (v := .ref (ad 1)) C iX7 (by decide) (mk_0 (by decide)) rfl 0 (by decide) L10 rfl dX7_restore_22 ?_
    refine g_aload_n C dX7_restore_25 rfl 0 rfl ?_
    refine g_get (v := .ref (ad 17)) C iX7 (by decide) (mk_0 (by decide)) rfl 1 (by decide) L16 rfl dX7_restore_26 ?_
    refine g_callV (rest := []) (st1 := []) C (c_X5_copyFrom 1 17 isS_1 isS_17 (f_X1_record 1 ω)) (cwV 1 C.hts gX7_restore_X5_copyFrom rfl rfl rfl md_X5_copyFrom ⟨Nat.le_of_ble_eq_true rfl, Nat.le_of_ble_eq_true rfl⟩) (by decide) (mk_1 (by decide)) rfl rfl rfl rfl rfl (Nat.le_of_ble_eq_true rfl) dX7_restore_29 (Nat.zero_le _) (Nat.zero_le _) ?_
    refine g_aload_n C dX7_restore_32 rfl 0 rfl ?_
    refine g_get (v := .ref (ad 1)) C iX7 (by decide) (mk_0 (by decide)) rfl 0 (by decide) L10 rfl dX7_restore_33 ?_
    refine g_get (v := .int ((f_X5_copyFrom 1 17 (f_X1_record 1 ω)) 1 4)) C iX5 (by decide) (mk_1 (by decide)) rfl 4 (by decide) L160 rfl dX7_restore_36 ?_
    exact g_iret C hret hlk (e1.trans (pr1 (v := ((f_X5_copyFrom 1 17 (f_X1_record 1 ω)) 1 4)) (w := (f_X5_copyFrom 1 17 (f_X1_record 1 ω))) ((if_neg h1).trans rfl))) (e2.trans (pr2 (v := ((f_X5_copyFrom 1 17 (f_X1_record 1 ω)) 1 4)) (w := (f_X5_copyFrom 1 17 (f_X1_record 1 ω))) ((if_neg h1).trans rfl))) dX7_restore_39
  · refine g_bipush (v := (-5)) C dX7_restore_7 (by decide) ?_
    exact g_iret C hret hlk (e1.trans (pr1 (v := (-5)) (w := ω) ((if_pos h1).trans rfl))) (e2.trans (pr2 (v := (-5)) (w := ω) ((if_pos h1).trans rfl))) dX7_restore_9
abbrev rm_X7_burner : Room := { frames := 3, cells := 0, slots := 0, locals := 63 }
theorem md_X7_burner : yX7_burner.cls = RX7 ∧ yX7_burner.cls ≠ "java/lang/invoke/MethodHandle" ∧ yX7_burner.cls ≠ "java/lang/invoke/VarHandle" ∧ (parseMethodDescriptor yX7_burner.desc).map (fun d => d.parameters.length) = some 2 := by decide +kernel
def f_X7_burner (k : Nat) (w : Int32) (ω : Mem) : Int32 := (if w = 0 then (ω (5 + k) 0) else (if w = 1 then (ω (5 + k) 1) else (if w = 2 then (f_X7_oneIf (bb (ω (5 + k) 2)) ω) else (if w = 3 then (f_X7_oneIf (bb (ω (5 + k) 3)) ω) else (if w = 4 then (f_X7_oneIf (bb (ω (5 + k) 4)) ω) else (if w = 5 then (ω (5 + k) 5) else (if w = 6 then (f_X7_oneIf (f_X5_isOpen 1 (5 + k) ω) ω) else (if w = 7 then (f_X7_oneIf (bb (ω (5 + k) 6)) ω) else (if w = 8 then (ω (5 + k) 7) else (if w = 9 then (ω (5 + k) 8) else (if w = 10 then (ω (5 + k) 9) else (if w = 11 then (f_X0_strength (5 + k) ω) else (-2)))))))))))))
set_option maxRecDepth 100000 in
set_option maxHeartbeats 4000000 in
theorem c_X7_burner {l_ : Launch} {sa : Nat → Nat} {D : va_G} {X : Nat → ClassId} {ad : Nat → Nat} (k : Nat) (w : Int32) (hk : k < 4) (ω : Mem)  : CT l_ yX7_burner wsX7_burner rm_X7_burner sa D (tyX X) 120 ad (mk X ad ω) [.ref (ad 0), .int (nI (k)), .int w] (some (.int (f_X7_burner k w ω)) : Option Value) (mk X ad ω) := by
  refine ct_of [(0, .ref (ad 0)), (1, .int (nI (k))), (2, .int w)] (by decide +kernel) rfl rfl (Nat.le_of_ble_eq_true rfl) rfl ?_
  intro p_ e_ s_ m_ args_ below_ meth_ c_ C hret hlk hin
  have e1 : (some (.int (f_X7_burner k w ω)) : Option Value) = (some (.int (f_X7_burner k w ω)) : Option Value) := rfl
  have e2 : mk X ad ω = mk X ad ω := rfl
  have iX0 : ∀ w ∈ u_ws RX0 TX0 10, w ∈ wsX7_burner := by decide +kernel
  have iX7 : ∀ w ∈ u_ws RX7 TX7 7, w ∈ wsX7_burner := by decide +kernel
  have L10 : Cond.fieldLink RX7 10 (TX7 0).1 (TX7 0).2.1 (TX7 0).2.2.1 ∈ wsX7_burner := by decide +kernel
  have L117 : Cond.fieldLink RX7 117 (TX0 4).1 (TX0 4).2.1 (TX0 4).2.2.1 ∈ wsX7_burner := by decide +kernel
  have L120 : Cond.fieldLink RX7 120 (TX0 2).1 (TX0 2).2.1 (TX0 2).2.2.1 ∈ wsX7_burner := by decide +kernel
  have L131 : Cond.fieldLink RX7 131 (TX0 3).1 (TX0 3).2.1 (TX0 3).2.2.1 ∈ wsX7_burner := by decide +kernel
  have L151 : Cond.fieldLink RX7 151 (TX0 6).1 (TX0 6).2.1 (TX0 6).2.2.1 ∈ wsX7_burner := by decide +kernel
  have L154 : Cond.fieldLink RX7 154 (TX0 7).1 (TX0 7).2.1 (TX0 7).2.2.1 ∈ wsX7_burner := by decide +kernel
  have L193 : Cond.fieldLink RX7 193 (TX0 5).1 (TX0 5).2.1 (TX0 5).2.2.1 ∈ wsX7_burner := by decide +kernel
  have L196 : Cond.fieldLink RX7 196 (TX0 8).1 (TX0 8).2.1 (TX0 8).2.2.1 ∈ wsX7_burner := by decide +kernel
  have L199 : Cond.fieldLink RX7 199 (TX0 9).1 (TX0 9).2.1 (TX0 9).2.2.1 ∈ wsX7_burner := by decide +kernel
  have L83 : Cond.fieldLink RX7 83 (TX0 1).1 (TX0 1).2.1 (TX0 1).2.2.1 ∈ wsX7_burner := by decide +kernel
  have L87 : Cond.fieldLink RX7 87 (TX0 0).1 (TX0 0).2.1 (TX0 0).2.2.1 ∈ wsX7_burner := by decide +kernel
  refine g_aload_n C dX7_burner_0 rfl 0 rfl ?_
  refine g_get (v := .ref (ad 1)) C iX7 (by decide) (mk_0 (by decide)) rfl 0 (by decide) L10 rfl dX7_burner_1 ?_
  refine g_iload_n C dX7_burner_4 rfl 1 rfl ?_
  refine g_callV (rest := []) (st1 := [.ref (ad (5 + k))]) C (c_X5_find 1 k isS_1 (by omega) ω) (cwV 1 C.hts gX7_burner_X5_find rfl rfl rfl md_X5_find ⟨Nat.le_of_ble_eq_true rfl, Nat.le_of_ble_eq_true rfl⟩) (by decide) (mk_1 (by decide)) rfl rfl rfl rfl rfl (Nat.le_of_ble_eq_true rfl) dX7_burner_5 (Nat.zero_le _) (Nat.zero_le _) ?_
  refine g_astore_n (lv' := [(3, .ref (ad (5 + k))), (0, .ref (ad 0)), (1, .int (nI (k))), (2, .int w)]) C dX7_burner_8 rfl (by decide) rfl ?_
  refine g_aload_n C dX7_burner_9 rfl 0 rfl ?_
  refine g_ifnonnull (tgt := 15) C dX7_burner_10 (by decide) ?_
  refine g_iload_n C dX7_burner_15 rfl 3 rfl ?_
  by_cases h1 : w = 0
  · refine g_tabIn (tgt := 80) C dX7_burner_16 (by rw [h1]; decide) (by rw [h1]; decide) (by rw [h1]; rfl) (by decide) ?_
    refine g_aload_n C dX7_burner_80 rfl 0 rfl ?_
    refine g_get (v := .int (ω (5 + k) 0)) C iX0 ((isS_1.bn (by omega))).1 (mk_4 ((isS_1.bn (by omega))).2) rfl 0 (by decide) L87 rfl dX7_burner_81 ?_
    exact g_iret C hret hlk (e1.trans (congrArg (fun z => some (Value.int z)) ((if_pos h1).trans rfl))) e2 dX7_burner_84
  · by_cases h2 : w = 1
    · refine g_tabIn (tgt := 85) C dX7_burner_16 (by rw [h2]; decide) (by rw [h2]; decide) (by rw [h2]; rfl) (by decide) ?_
      refine g_aload_n C dX7_burner_85 rfl 0 rfl ?_
      refine g_get (v := .int (ω (5 + k) 1)) C iX0 ((isS_1.bn (by omega))).1 (mk_4 ((isS_1.bn (by omega))).2) rfl 1 (by decide) L83 rfl dX7_burner_86 ?_
      exact g_iret C hret hlk (e1.trans (congrArg (fun z => some (Value.int z)) ((if_neg h1).trans ((if_pos h2).trans rfl)))) e2 dX7_burner_89
    · by_cases h3 : w = 2
      · refine g_tabIn (tgt := 90) C dX7_burner_16 (by rw [h3]; decide) (by rw [h3]; decide) (by rw [h3]; rfl) (by decide) ?_
        refine g_aload_n C dX7_burner_90 rfl 0 rfl ?_
        refine g_get (v := .int (bb (ω (5 + k) 2))) C iX0 ((isS_1.bn (by omega))).1 (mk_4 ((isS_1.bn (by omega))).2) rfl 2 (by decide) L120 rfl dX7_burner_91 ?_
        refine g_callS (rest := []) (st1 := [.int (f_X7_oneIf (bb (ω (5 + k) 2)) ω)]) C (c_X7_oneIf (bb (ω (5 + k) 2)) ω) (va_cwS 1 C.hts gX7_burner_X7_oneIf rfl rfl rfl md_X7_oneIf.2 ⟨Nat.le_of_ble_eq_true rfl, Nat.le_of_ble_eq_true rfl⟩) rfl rfl rfl (Nat.le_of_ble_eq_true rfl) dX7_burner_94 (Nat.zero_le _) (Nat.zero_le _) ?_
        exact g_iret C hret hlk (e1.trans (congrArg (fun z => some (Value.int z)) ((if_neg h1).trans ((if_neg h2).trans ((if_pos h3).trans rfl))))) e2 dX7_burner_97
      · by_cases h4 : w = 3
        · refine g_tabIn (tgt := 98) C dX7_burner_16 (by rw [h4]; decide) (by rw [h4]; decide) (by rw [h4]; rfl) (by decide) ?_
          refine g_aload_n C dX7_burner_98 rfl 0 rfl ?_
          refine g_get (v := .int (bb (ω (5 + k) 3))) C iX0 ((isS_1.bn (by omega))).1 (mk_4 ((isS_1.bn (by omega))).2) rfl 3 (by decide) L131 rfl dX7_burner_99 ?_
          refine g_callS (rest := []) (st1 := [.int (f_X7_oneIf (bb (ω (5 + k) 3)) ω)]) C (c_X7_oneIf (bb (ω (5 + k) 3)) ω) (va_cwS 1 C.hts gX7_burner_X7_oneIf rfl rfl rfl md_X7_oneIf.2 ⟨Nat.le_of_ble_eq_true rfl, Nat.le_of_ble_eq_true rfl⟩) rfl rfl rfl (Nat.le_of_ble_eq_true rfl) dX7_burner_102 (Nat.zero_le _) (Nat.zero_le _) ?_
          exact g_iret C hret hlk (e1.trans (congrArg (fun z => some (Value.int z)) ((if_neg h1).trans ((if_neg h2).trans ((if_neg h3).trans ((if_pos h4).trans rfl)))))) e2 dX7_burner_105
        · by_cases h5 : w = 4
          · refine g_tabIn (tgt := 106) C dX7_burner_16 (by rw [h5]; decide) (by rw [h5]; decide) (by rw [h5]; rfl) (by decide) ?_
            refine g_aload_n C dX7_burner_106 rfl 0 rfl ?_
            refine g_get (v := .int (bb (ω (5 + k) 4))) C iX0 ((isS_1.bn (by omega))).1 (mk_4 ((isS_1.bn (by omega))).2) rfl 4 (by decide) L117 rfl dX7_burner_107 ?_
            refine g_callS (rest := []) (st1 := [.int (f_X7_oneIf (bb (ω (5 + k) 4)) ω)]) C (c_X7_oneIf (bb (ω (5 + k) 4)) ω) (va_cwS 1 C.hts gX7_burner_X7_oneIf rfl rfl rfl md_X7_oneIf.2 ⟨Nat.le_of_ble_eq_true rfl, Nat.le_of_ble_eq_true rfl⟩) rfl rfl rfl (Nat.le_of_ble_eq_true rfl) dX7_burner_110 (Nat.zero_le _) (Nat.zero_le _) ?_
            exact g_iret C hret hlk (e1.trans (congrArg (fun z => some (Value.int z)) ((if_neg h1).trans ((if_neg h2).trans ((if_neg h3).trans ((if_neg h4).trans ((if_pos h5).trans rfl))))))) e2 dX7_burner_113
          · by_cases h6 : w = 5
            · refine g_tabIn (tgt := 114) C dX7_burner_16 (by rw [h6]; decide) (by rw [h6]; decide) (by rw [h6]; rfl) (by decide) ?_
              refine g_aload_n C dX7_burner_114 rfl 0 rfl ?_
              refine g_get (v := .int (ω (5 + k) 5)) C iX0 ((isS_1.bn (by omega))).1 (mk_4 ((isS_1.bn (by omega))).2) rfl 5 (by decide) L193 rfl dX7_burner_115 ?_
              exact g_iret C hret hlk (e1.trans (congrArg (fun z => some (Value.int z)) ((if_neg h1).trans ((if_neg h2).trans ((if_neg h3).trans ((if_neg h4).trans ((if_neg h5).trans ((if_pos h6).trans rfl)))))))) e2 dX7_burner_118
            · by_cases h7 : w = 6
              · refine g_tabIn (tgt := 119) C dX7_burner_16 (by rw [h7]; decide) (by rw [h7]; decide) (by rw [h7]; rfl) (by decide) ?_
                refine g_aload_n C dX7_burner_119 rfl 1 rfl ?_
                refine g_get (v := .ref (ad 1)) C iX7 (by decide) (mk_0 (by decide)) rfl 0 (by decide) L10 rfl dX7_burner_120 ?_
                refine g_aload_n C dX7_burner_123 rfl 0 rfl ?_
                refine g_callV (rest := []) (st1 := [.int (f_X5_isOpen 1 (5 + k) ω)]) C (c_X5_isOpen 1 (5 + k) isS_1 (isS_1.bn (by omega)) ω) (cwV 1 C.hts gX7_burner_X5_isOpen rfl rfl rfl md_X5_isOpen ⟨Nat.le_of_ble_eq_true rfl, Nat.le_of_ble_eq_true rfl⟩) (by decide) (mk_1 (by decide)) rfl rfl rfl rfl rfl (Nat.le_of_ble_eq_true rfl) dX7_burner_124 (Nat.zero_le _) (Nat.zero_le _) ?_
                refine g_callS (rest := []) (st1 := [.int (f_X7_oneIf (f_X5_isOpen 1 (5 + k) ω) ω)]) C (c_X7_oneIf (f_X5_isOpen 1 (5 + k) ω) ω) (va_cwS 1 C.hts gX7_burner_X7_oneIf rfl rfl rfl md_X7_oneIf.2 ⟨Nat.le_of_ble_eq_true rfl, Nat.le_of_ble_eq_true rfl⟩) rfl rfl rfl (Nat.le_of_ble_eq_true rfl) dX7_burner_127 (Nat.zero_le _) (Nat.zero_le _) ?_
                exact g_iret C hret hlk (e1.trans (congrArg (fun z => some (Value.int z)) ((if_neg h1).trans ((if_neg h2).trans ((if_neg h3).trans ((if_neg h4).trans ((if_neg h5).trans ((if_neg h6).trans ((if_pos h7).trans rfl))))))))) e2 dX7_burner_130
              · by_cases h8 : w = 7
                · refine g_tabIn (tgt := 131) C dX7_burner_16 (by rw [h8]; decide) (by rw [h8]; decide) (by rw [h8]; rfl) (by decide) ?_
                  refine g_aload_n C dX7_burner_131 rfl 0 rfl ?_
                  refine g_get (v := .int (bb (ω (5 + k) 6))) C iX0 ((isS_1.bn (by omega))).1 (mk_4 ((isS_1.bn (by omega))).2) rfl 6 (by decide) L151 rfl dX7_burner_132 ?_
                  refine g_callS (rest := []) (st1 := [.int (f_X7_oneIf (bb (ω (5 + k) 6)) ω)]) C (c_X7_oneIf (bb (ω (5 + k) 6)) ω) (va_cwS 1 C.hts gX7_burner_X7_oneIf rfl rfl rfl md_X7_oneIf.2 ⟨Nat.le_of_ble_eq_true rfl, Nat.le_of_ble_eq_true rfl⟩) rfl rfl rfl (Nat.le_of_ble_eq_true rfl) dX7_burner_135 (Nat.zero_le _) (Nat.zero_le _) ?_
                  exact g_iret C hret hlk (e1.trans (congrArg (fun z => some (Value.int z)) ((if_neg h1).trans ((if_neg h2).trans ((if_neg h3).trans ((if_neg h4).trans ((if_neg h5).trans ((if_neg h6).trans ((if_neg h7).trans ((if_pos h8).trans rfl)))))))))) e2 dX7_burner_138
                · by_cases h9 : w = 8
                  · refine g_tabIn (tgt := 139) C dX7_burner_16 (by rw [h9]; decide) (by rw [h9]; decide) (by rw [h9]; rfl) (by decide) ?_
                    refine g_aload_n C dX7_burner_139 rfl 0 rfl ?_
                    refine g_get (v := .int (ω (5 + k) 7)) C iX0 ((isS_1.bn (by omega))).1 (mk_4 ((isS_1.bn (by omega))).2) rfl 7 (by decide) L154 rfl dX7_burner_140 ?_
                    exact g_iret C hret hlk (e1.trans (congrArg (fun z => some (Value.int z)) ((if_neg h1).trans ((if_neg h2).trans ((if_neg h3).trans ((if_neg h4).trans ((if_neg h5).trans ((if_neg h6).trans ((if_neg h7).trans ((if_neg h8).trans ((if_pos h9).trans rfl))))))))))) e2 dX7_burner_143
                  · by_cases h10 : w = 9
                    · refine g_tabIn (tgt := 144) C dX7_burner_16 (by rw [h10]; decide) (by rw [h10]; decide) (by rw [h10]; rfl) (by decide) ?_
                      refine g_aload_n C dX7_burner_144 rfl 0 rfl ?_
                      refine g_get (v := .int (ω (5 + k) 8)) C iX0 ((isS_1.bn (by omega))).1 (mk_4 ((isS_1.bn (by omega))).2) rfl 8 (by decide) L196 rfl dX7_burner_145 ?_
                      exact g_iret C hret hlk (e1.trans (congrArg (fun z => some (Value.int z)) ((if_neg h1).trans ((if_neg h2).trans ((if_neg h3).trans ((if_neg h4).trans ((if_neg h5).trans ((if_neg h6).trans ((if_neg h7).trans ((if_neg h8).trans ((if_neg h9).trans ((if_pos h10).trans rfl)))))))))))) e2 dX7_burner_148
                    · by_cases h11 : w = 10
                      · refine g_tabIn (tgt := 149) C dX7_burner_16 (by rw [h11]; decide) (by rw [h11]; decide) (by rw [h11]; rfl) (by decide) ?_
                        refine g_aload_n C dX7_burner_149 rfl 0 rfl ?_
                        refine g_get (v := .int (ω (5 + k) 9)) C iX0 ((isS_1.bn (by omega))).1 (mk_4 ((isS_1.bn (by omega))).2) rfl 9 (by decide) L199 rfl dX7_burner_150 ?_
                        exact g_iret C hret hlk (e1.trans (congrArg (fun z => some (Value.int z)) ((if_neg h1).trans ((if_neg h2).trans ((if_neg h3).trans ((if_neg h4).trans ((if_neg h5).trans ((if_neg h6).trans ((if_neg h7).trans ((if_neg h8).trans ((if_neg h9).trans ((if_neg h10).trans ((if_pos h11).trans rfl))))))))))))) e2 dX7_burner_153
                      · by_cases h12 : w = 11
                        · refine g_tabIn (tgt := 154) C dX7_burner_16 (by rw [h12]; decide) (by rw [h12]; decide) (by rw [h12]; rfl) (by decide) ?_
                          refine g_aload_n C dX7_burner_154 rfl 0 rfl ?_
                          refine g_callV (rest := []) (st1 := [.int (f_X0_strength (5 + k) ω)]) C (c_X0_strength (5 + k) (isS_1.bn (by omega)) ω) (cwV 0 C.hts gX7_burner_X0_strength rfl rfl rfl md_X0_strength ⟨Nat.le_of_ble_eq_true rfl, Nat.le_of_ble_eq_true rfl⟩) ((isS_1.bn (by omega))).1 (mk_4 ((isS_1.bn (by omega))).2) rfl rfl rfl rfl rfl (Nat.le_of_ble_eq_true rfl) dX7_burner_155 (Nat.zero_le _) (Nat.zero_le _) ?_
                          exact g_iret C hret hlk (e1.trans (congrArg (fun z => some (Value.int z)) ((if_neg h1).trans ((if_neg h2).trans ((if_neg h3).trans ((if_neg h4).trans ((if_neg h5).trans ((if_neg h6).trans ((if_neg h7).trans ((if_neg h8).trans ((if_neg h9).trans ((if_neg h10).trans ((if_neg h11).trans ((if_pos h12).trans rfl)))))))))))))) e2 dX7_burner_158
                        · refine g_tabOut (tgt := 159) C dX7_burner_16 (tab_out 0 11 (fun k hk hz => by
                            rcases (show k = 0 ∨ k = 1 ∨ k = 2 ∨ k = 3 ∨ k = 4 ∨ k = 5 ∨ k = 6 ∨ k = 7 ∨ k = 8 ∨ k = 9 ∨ k = 10 ∨ k = 11 by omega) with rfl | rfl | rfl | rfl | rfl | rfl | rfl | rfl | rfl | rfl | rfl | rfl
                            · exact h1 (Int32.toInt_inj.mp (hz.trans (by decide)))
                            · exact h2 (Int32.toInt_inj.mp (hz.trans (by decide)))
                            · exact h3 (Int32.toInt_inj.mp (hz.trans (by decide)))
                            · exact h4 (Int32.toInt_inj.mp (hz.trans (by decide)))
                            · exact h5 (Int32.toInt_inj.mp (hz.trans (by decide)))
                            · exact h6 (Int32.toInt_inj.mp (hz.trans (by decide)))
                            · exact h7 (Int32.toInt_inj.mp (hz.trans (by decide)))
                            · exact h8 (Int32.toInt_inj.mp (hz.trans (by decide)))
                            · exact h9 (Int32.toInt_inj.mp (hz.trans (by decide)))
                            · exact h10 (Int32.toInt_inj.mp (hz.trans (by decide)))
                            · exact h11 (Int32.toInt_inj.mp (hz.trans (by decide)))
                            · exact h12 (Int32.toInt_inj.mp (hz.trans (by decide)))
                            )) (by decide) ?_
                          refine g_bipush (v := (-2)) C dX7_burner_159 (by decide) ?_
                          exact g_iret C hret hlk (e1.trans (congrArg (fun z => some (Value.int z)) ((if_neg h1).trans ((if_neg h2).trans ((if_neg h3).trans ((if_neg h4).trans ((if_neg h5).trans ((if_neg h6).trans ((if_neg h7).trans ((if_neg h8).trans ((if_neg h9).trans ((if_neg h10).trans ((if_neg h11).trans ((if_neg h12).trans rfl)))))))))))))) e2 dX7_burner_161
def f_X7_burnerB (x : Int32) (w : Int32) (ω : Mem) : Int32 := (-1)
set_option maxRecDepth 100000 in
set_option maxHeartbeats 4000000 in
theorem c_X7_burnerB {l_ : Launch} {sa : Nat → Nat} {D : va_G} {X : Nat → ClassId} {ad : Nat → Nat} (x : Int32) (w : Int32) (hbad : x < 0 ∨ 4 ≤ x) (ω : Mem)  : CT l_ yX7_burner wsX7_burner rm_X7_burner sa D (tyX X) 120 ad (mk X ad ω) [.ref (ad 0), .int x, .int w] (some (.int (f_X7_burnerB x w ω)) : Option Value) (mk X ad ω) := by
  refine ct_of [(0, .ref (ad 0)), (1, .int x), (2, .int w)] (by decide +kernel) rfl rfl (Nat.le_of_ble_eq_true rfl) rfl ?_
  intro p_ e_ s_ m_ args_ below_ meth_ c_ C hret hlk hin
  have e1 : (some (.int (f_X7_burnerB x w ω)) : Option Value) = (some (.int (f_X7_burnerB x w ω)) : Option Value) := rfl
  have e2 : mk X ad ω = mk X ad ω := rfl
  have iX7 : ∀ w ∈ u_ws RX7 TX7 7, w ∈ wsX7_burner := by decide +kernel
  have L10 : Cond.fieldLink RX7 10 (TX7 0).1 (TX7 0).2.1 (TX7 0).2.2.1 ∈ wsX7_burner := by decide +kernel
  refine g_aload_n C dX7_burner_0 rfl 0 rfl ?_
  refine g_get (v := .ref (ad 1)) C iX7 (by decide) (mk_0 (by decide)) rfl 0 (by decide) L10 rfl dX7_burner_1 ?_
  refine g_iload_n C dX7_burner_4 rfl 1 rfl ?_
  refine g_callV (rest := []) (st1 := [.null]) C (c_X5_findB 1 x isS_1 hbad ω) (cwV 1 C.hts gX7_burner_X5_find rfl rfl rfl md_X5_find ⟨Nat.le_of_ble_eq_true rfl, Nat.le_of_ble_eq_true rfl⟩) (by decide) (mk_1 (by decide)) rfl rfl rfl rfl rfl (Nat.le_of_ble_eq_true rfl) dX7_burner_5 (Nat.zero_le _) (Nat.zero_le _) ?_
  refine g_astoreN_n (lv' := [(3, .null), (0, .ref (ad 0)), (1, .int x), (2, .int w)]) C dX7_burner_8 rfl (by decide) rfl ?_
  refine g_aloadN_n C dX7_burner_9 rfl 0 rfl ?_
  refine g_ifnonnullN C dX7_burner_10 ?_
  refine g_iconst (v := (-1)) C dX7_burner_13 (by decide) ?_
  exact g_iret C hret hlk (e1.trans (congrArg (fun z => some (Value.int z)) rfl)) e2 dX7_burner_14
def f_X7_staysOpen_53 : Nat → Nat → Int32 → Int32 → Nat → Mem → Int32
  | 0, _, _, _, _, _ => 0
  | fu + 1, k, h, v, j, ω => (if v < h then (nI (j)) else (if 1000 ≤ j then (nI (j)) else (f_X7_staysOpen_53 fu k h (f_X0_temperatureAfter (5 + k) v 0 ω) (j + 1) ω)))
def f_X7_staysOpen (k : Nat) (ω : Mem) : Int32 := (if (ω (5 + k) 1) = 0 then (-4) else (if (bb (ω (5 + k) 6)) = 0 then (f_X7_staysOpen_53 1001 k (f_X4_valueOf 2 0 ω) (ω (5 + k) 5) 0 ω) else (-4)))
def f_X7_staysOpenB (x : Int32) (ω : Mem) : Int32 := (-1)
def f_X7_toPress_56 : Nat → Nat → Int32 → Int32 → Int32 → Int32 → Nat → Mem → Int32
  | 0, _, _, _, _, _, _, _ => 0
  | fu + 1, k, v, h, g, y, j, ω => (if h ≤ y then (nI (j)) else (if 1000 ≤ j then (nI (j)) else (f_X7_toPress_56 fu k v h g (f_X0_temperatureAfter (5 + k) y g ω) (j + 1) ω)))
def f_X7_toPress (k : Nat) (v : Int32) (ω : Mem) : Int32 := (if (f_X7_isWithin v 1 2 ω) = 0 then (-2) else (f_X7_toPress_56 1001 k v (f_X4_valueOf 2 0 ω) (f_X0_heatAt (5 + k) v ω) (ω (5 + k) 5) 0 ω))
def f_X7_toPressB (x : Int32) (v : Int32) (ω : Mem) : Int32 := (-1)
abbrev rm_X7_clearIn : Room := { frames := 6, cells := 0, slots := 0, locals := 131 }
theorem md_X7_clearIn : yX7_clearIn.cls = RX7 ∧ yX7_clearIn.cls ≠ "java/lang/invoke/MethodHandle" ∧ yX7_clearIn.cls ≠ "java/lang/invoke/VarHandle" ∧ (parseMethodDescriptor yX7_clearIn.desc).map (fun d => d.parameters.length) = some 0 := by decide +kernel
def f_X7_clearIn_13 : Nat → Nat → Mem → Int32 × Mem
  | 0, _, ω => (0, ω)
  | fu + 1, j, ω => (if 500 < j then ((-5), ω) else (if (f_X5_isClear 33 ω) = 0 then (f_X7_clearIn_13 fu (j + 1) (f_X5_passTick 33 ω)) else ((nI (j)), ω)))
set_option maxRecDepth 100000 in
set_option maxHeartbeats 4000000 in
theorem k_X7_clearIn_13 {l_ : Launch} {p_ : Program} {e_ : Env} {s_ : State} {m_ : MethodId} {args_ : Array Value} {below_ : List Frame} {meth_ : Method} {c_ : Code} {sa : Nat → Nat} {D : va_G} {X : Nat → ClassId} {ad : Nat → Nat} {G0 : Nat → va_E} (fu : Nat)  (C : GC p_ rm_X7_clearIn s_ m_ args_ meth_ c_ cX7_clearIn 2 wsX7_clearIn RX7 sa D (tyX X) (va_A (gw 120 ad G0) s_.heap.size)) (hret : meth_.sig.returnType = (some .int)) (hlk : meth_.locks = false) : ∀ (j : Nat) (ω : Mem) (hj : j ≤ 501) (hfuel : 501 < j + fu) (rv : Option Value) (G2 : Nat → va_E) (e1 : rv = some (.int (f_X7_clearIn_13 fu j ω).1)) (e2 : G2 = mk X ad (f_X7_clearIn_13 fu j ω).2), GV p_ l_ e_ rm_X7_clearIn s_ m_ args_ below_ meth_ c_ 0 0 (CQ below_ args_ s_ D 120 ad G0 rv G2) D (va_A (gw 120 ad G0) s_.heap.size) 2 120 ad (mk X ad ω) [(0, .ref (ad 0)), (1, .int (nI (j)))] 13 [] := by
  have iX7 : ∀ w ∈ u_ws RX7 TX7 7, w ∈ wsX7_clearIn := by decide +kernel
  have L19 : Cond.fieldLink RX7 19 (TX7 2).1 (TX7 2).2.1 (TX7 2).2.2.1 ∈ wsX7_clearIn := by decide +kernel
  induction fu with
  | zero =>
    intro j ω hj hfuel rv G2 e1 e2
    exact absurd hfuel (by omega)
  | succ fu ih =>
    intro j ω hj hfuel rv G2 e1 e2
    refine g_iload_n C dX7_clearIn_13 rfl 1 rfl ?_
    refine g_sipush (v := 500) C dX7_clearIn_14 (by decide) ?_
    refine g_icmp_gt (tgt := 45) C dX7_clearIn_17 (by decide) (fun h1 => ?_) (fun h1 => ?_)
    · have h1n := (nI_ltI (a := 500) (b := j) (by omega) (by omega)).mp h1
      refine g_bipush (v := (-5)) C dX7_clearIn_45 (by decide) ?_
      exact g_iret C hret hlk (e1.trans (pr1 (v := (-5)) (w := ω) ((if_pos h1n).trans rfl))) (e2.trans (pr2 (v := (-5)) (w := ω) ((if_pos h1n).trans rfl))) dX7_clearIn_47
    · have h1n := (not_congr (nI_ltI (a := 500) (b := j) (by omega) (by omega))).mp h1
      refine g_aload_n C dX7_clearIn_20 rfl 0 rfl ?_
      refine g_get (v := .ref (ad 33)) C iX7 (by decide) (mk_0 (by decide)) rfl 2 (by decide) L19 rfl dX7_clearIn_21 ?_
      refine g_callV (rest := []) (st1 := [.int (f_X5_isClear 33 ω)]) C (c_X5_isClear 33 isS_33 ω) (cwV 0 C.hts gX7_clearIn_X5_isClear rfl rfl rfl md_X5_isClear ⟨Nat.le_of_ble_eq_true rfl, Nat.le_of_ble_eq_true rfl⟩) (by decide) (mk_1 (by decide)) rfl rfl rfl rfl rfl (Nat.le_of_ble_eq_true rfl) dX7_clearIn_24 (Nat.zero_le _) (Nat.zero_le _) ?_
      refine g_if_eq (tgt := 32) C dX7_clearIn_27 (by decide) (fun h2 => ?_) (fun h2 => ?_)
      · refine g_aload_n C dX7_clearIn_32 rfl 0 rfl ?_
        refine g_get (v := .ref (ad 33)) C iX7 (by decide) (mk_0 (by decide)) rfl 2 (by decide) L19 rfl dX7_clearIn_33 ?_
        refine g_callV (rest := []) (st1 := []) C (c_X5_passTick 33 isS_33 ω) (cwV 0 C.hts gX7_clearIn_X5_passTick rfl rfl rfl md_X5_passTick ⟨Nat.le_of_ble_eq_true rfl, Nat.le_of_ble_eq_true rfl⟩) (by decide) (mk_1 (by decide)) rfl rfl rfl rfl rfl (Nat.le_of_ble_eq_true rfl) dX7_clearIn_36 (Nat.zero_le _) (Nat.zero_le _) ?_
        refine g_iinc (k := 1) (v := (nI (j + 1))) (lv' := [(1, .int (nI (j + 1))), (0, .ref (ad 0))]) C dX7_clearIn_39 rfl (nI_1 (j)) (by decide) rfl ?_
        refine g_goto (tgt := 13) C dX7_clearIn_42 (by decide) ?_
        refine gv_lv (lv' := [(0, .ref (ad 0)), (1, .int (nI (j + 1)))]) [1, 0] rfl ?_
        exact ih (j + 1) (f_X5_passTick 33 ω) (by omega) (by omega) _ _ (e1.trans (congrArg (fun z : Int32 × Mem => some (Value.int z.1)) ((if_neg h1n).trans ((if_pos h2).trans rfl)))) (e2.trans (congrArg (fun z : Int32 × Mem => mk X ad z.2) ((if_neg h1n).trans ((if_pos h2).trans rfl))))
      · refine g_iload_n C dX7_clearIn_30 rfl 1 rfl ?_
        exact g_iret C hret hlk (e1.trans (pr1 (v := (nI (j))) (w := ω) ((if_neg h1n).trans ((if_neg h2).trans rfl)))) (e2.trans (pr2 (v := (nI (j))) (w := ω) ((if_neg h1n).trans ((if_neg h2).trans rfl)))) dX7_clearIn_31
def f_X7_clearIn  (ω : Mem) : Int32 × Mem := (f_X7_clearIn_13 502 0 (f_X5_copyFrom 33 1 ω))
set_option maxRecDepth 100000 in
set_option maxHeartbeats 4000000 in
theorem c_X7_clearIn {l_ : Launch} {sa : Nat → Nat} {D : va_G} {X : Nat → ClassId} {ad : Nat → Nat}  (ω : Mem)  : CT l_ yX7_clearIn wsX7_clearIn rm_X7_clearIn sa D (tyX X) 120 ad (mk X ad ω) [.ref (ad 0)] (some (.int (f_X7_clearIn ω).1) : Option Value) (mk X ad (f_X7_clearIn ω).2) := by
  refine ct_of [(0, .ref (ad 0))] (by decide +kernel) rfl rfl (Nat.le_of_ble_eq_true rfl) rfl ?_
  intro p_ e_ s_ m_ args_ below_ meth_ c_ C hret hlk hin
  have e1 : (some (.int (f_X7_clearIn ω).1) : Option Value) = (some (.int (f_X7_clearIn ω).1) : Option Value) := rfl
  have e2 : mk X ad (f_X7_clearIn ω).2 = mk X ad (f_X7_clearIn ω).2 := rfl
  have iX7 : ∀ w ∈ u_ws RX7 TX7 7, w ∈ wsX7_clearIn := by decide +kernel
  have L10 : Cond.fieldLink RX7 10 (TX7 0).1 (TX7 0).2.1 (TX7 0).2.2.1 ∈ wsX7_clearIn := by decide +kernel
  have L19 : Cond.fieldLink RX7 19 (TX7 2).1 (TX7 2).2.1 (TX7 2).2.2.1 ∈ wsX7_clearIn := by decide +kernel
  refine g_aload_n C dX7_clearIn_0 rfl 0 rfl ?_
  refine g_get (v := .ref (ad 33)) C iX7 (by decide) (mk_0 (by decide)) rfl 2 (by decide) L19 rfl dX7_clearIn_1 ?_
  refine g_aload_n C dX7_clearIn_4 rfl 0 rfl ?_
  refine g_get (v := .ref (ad 1)) C iX7 (by decide) (mk_0 (by decide)) rfl 0 (by decide) L10 rfl dX7_clearIn_5 ?_
  refine g_callV (rest := []) (st1 := []) C (c_X5_copyFrom 33 1 isS_33 isS_1 ω) (cwV 1 C.hts gX7_clearIn_X5_copyFrom rfl rfl rfl md_X5_copyFrom ⟨Nat.le_of_ble_eq_true rfl, Nat.le_of_ble_eq_true rfl⟩) (by decide) (mk_1 (by decide)) rfl rfl rfl rfl rfl (Nat.le_of_ble_eq_true rfl) dX7_clearIn_8 (Nat.zero_le _) (Nat.zero_le _) ?_
  refine g_iconst (v := 0) C dX7_clearIn_11 (by decide) ?_
  refine g_istore_n (lv' := [(1, .int 0), (0, .ref (ad 0))]) C dX7_clearIn_12 rfl (by decide) rfl ?_
  refine gv_lv (lv' := [(0, .ref (ad 0)), (1, .int 0)]) [1, 0] rfl ?_
  exact k_X7_clearIn_13 (502)   C hret hlk 0 (f_X5_copyFrom 33 1 ω) (by omega) (by omega) _ _ (e1.trans (congrArg (fun z : Int32 × Mem => some (Value.int z.1)) rfl)) (e2.trans (congrArg (fun z : Int32 × Mem => mk X ad z.2) rfl))
def f_X7_blownIn_33 : Nat → Nat → Int32 → Nat → Mem → Int32
  | 0, _, _, _, _ => 0
  | fu + 1, k, h, j, ω => (if 500 < j then (-5) else (if (f_X3_draftIn 9 ((ω 1 4) + (nI (j))) ω) ≤ h then (f_X7_blownIn_33 fu k h (j + 1) ω) else (nI (j))))
def f_X7_blownIn (k : Nat) (ω : Mem) : Int32 := (if (ω (5 + k) 1) = 0 then (-4) else (f_X7_blownIn_33 502 k (f_X0_strength (5 + k) ω) 0 ω))
def f_X7_blownInB (x : Int32) (ω : Mem) : Int32 := (-1)
abbrev rm_X7_entry : Room := { frames := 1, cells := 0, slots := 0, locals := 22 }
theorem md_X7_entry : yX7_entry.cls = RX7 ∧ yX7_entry.cls ≠ "java/lang/invoke/MethodHandle" ∧ yX7_entry.cls ≠ "java/lang/invoke/VarHandle" ∧ (parseMethodDescriptor yX7_entry.desc).map (fun d => d.parameters.length) = some 2 := by decide +kernel
def f_X7_entry (x : Int32) (w : Int32) (ω : Mem) : Int32 := (if x < 0 then (-2) else (if (f_X7_isWithin w 0 1 ω) = 0 then (-2) else (if x < (ω 9 2) then (if w = 0 then (f_X7_elementAt 12 10 x ω) else (f_X7_elementAt 12 11 x ω)) else (-5))))
set_option maxRecDepth 100000 in
set_option maxHeartbeats 4000000 in
theorem c_X7_entry {l_ : Launch} {sa : Nat → Nat} {D : va_G} {X : Nat → ClassId} {ad : Nat → Nat} (x : Int32) (w : Int32) (ω : Mem)  : CT l_ yX7_entry wsX7_entry rm_X7_entry sa D (tyX X) 120 ad (mk X ad ω) [.ref (ad 0), .int x, .int w] (some (.int (f_X7_entry x w ω)) : Option Value) (mk X ad ω) := by
  refine ct_of [(0, .ref (ad 0)), (1, .int x), (2, .int w)] (by decide +kernel) rfl rfl (Nat.le_of_ble_eq_true rfl) rfl ?_
  intro p_ e_ s_ m_ args_ below_ meth_ c_ C hret hlk hin
  have e1 : (some (.int (f_X7_entry x w ω)) : Option Value) = (some (.int (f_X7_entry x w ω)) : Option Value) := rfl
  have e2 : mk X ad ω = mk X ad ω := rfl
  have iX3 : ∀ w ∈ u_ws RX3 TX3 3, w ∈ wsX7_entry := by decide +kernel
  have iX5 : ∀ w ∈ u_ws RX5 TX5 8, w ∈ wsX7_entry := by decide +kernel
  have iX7 : ∀ w ∈ u_ws RX7 TX7 7, w ∈ wsX7_entry := by decide +kernel
  have L10 : Cond.fieldLink RX7 10 (TX7 0).1 (TX7 0).2.1 (TX7 0).2.2.1 ∈ wsX7_entry := by decide +kernel
  have L102 : Cond.fieldLink RX7 102 (TX3 2).1 (TX3 2).2.1 (TX3 2).2.2.1 ∈ wsX7_entry := by decide +kernel
  have L215 : Cond.fieldLink RX7 215 (TX3 0).1 (TX3 0).2.1 (TX3 0).2.2.1 ∈ wsX7_entry := by decide +kernel
  have L219 : Cond.fieldLink RX7 219 (TX3 1).1 (TX3 1).2.1 (TX3 1).2.2.1 ∈ wsX7_entry := by decide +kernel
  have L90 : Cond.fieldLink RX7 90 (TX5 2).1 (TX5 2).2.1 (TX5 2).2.2.1 ∈ wsX7_entry := by decide +kernel
  refine g_iload_n C dX7_entry_0 rfl 1 rfl ?_
  refine g_if_lt (tgt := 13) C dX7_entry_1 (by decide) (fun h1 => ?_) (fun h1 => ?_)
  · refine g_bipush (v := (-2)) C dX7_entry_13 (by decide) ?_
    exact g_iret C hret hlk (e1.trans (congrArg (fun z => some (Value.int z)) ((if_pos h1).trans rfl))) e2 dX7_entry_15
  · refine g_iload_n C dX7_entry_4 rfl 2 rfl ?_
    refine g_iconst (v := 0) C dX7_entry_5 (by decide) ?_
    refine g_iconst (v := 1) C dX7_entry_6 (by decide) ?_
    refine g_callS (rest := []) (st1 := [.int (f_X7_isWithin w 0 1 ω)]) C (c_X7_isWithin w 0 1 ω) (va_cwS 3 C.hts gX7_entry_X7_isWithin rfl rfl rfl md_X7_isWithin.2 ⟨Nat.le_of_ble_eq_true rfl, Nat.le_of_ble_eq_true rfl⟩) rfl rfl rfl (Nat.le_of_ble_eq_true rfl) dX7_entry_7 (Nat.zero_le _) (Nat.zero_le _) ?_
    refine g_if_ne (tgt := 16) C dX7_entry_10 (by decide) (fun h2 => ?_) (fun h2 => ?_)
    · refine g_iload_n C dX7_entry_16 rfl 1 rfl ?_
      refine g_aload_n C dX7_entry_17 rfl 0 rfl ?_
      refine g_get (v := .ref (ad 1)) C iX7 (by decide) (mk_0 (by decide)) rfl 0 (by decide) L10 rfl dX7_entry_18 ?_
      refine g_get (v := .ref (ad 9)) C iX5 (by decide) (mk_1 (by decide)) rfl 2 (by decide) L90 rfl dX7_entry_21 ?_
      refine g_get (v := .int (ω 9 2)) C iX3 (by decide) (mk_5 (by decide)) rfl 2 (by decide) L102 rfl dX7_entry_24 ?_
      refine g_icmp_lt (tgt := 33) C dX7_entry_27 (by decide) (fun h3 => ?_) (fun h3 => ?_)
      · refine g_iload_n C dX7_entry_33 rfl 2 rfl ?_
        refine g_if_ne (tgt := 50) C dX7_entry_34 (by decide) (fun h4 => ?_) (fun h4 => ?_)
        · refine g_aload_n C dX7_entry_50 rfl 0 rfl ?_
          refine g_get (v := .ref (ad 1)) C iX7 (by decide) (mk_0 (by decide)) rfl 0 (by decide) L10 rfl dX7_entry_51 ?_
          refine g_get (v := .ref (ad 9)) C iX5 (by decide) (mk_1 (by decide)) rfl 2 (by decide) L90 rfl dX7_entry_54 ?_
          refine g_get (v := .ref (ad 11)) C iX3 (by decide) (mk_5 (by decide)) rfl 1 (by decide) L219 rfl dX7_entry_57 ?_
          refine g_iload_n C dX7_entry_60 rfl 1 rfl ?_
          refine g_callS (rest := []) (st1 := [.int (f_X7_elementAt 12 11 x ω)]) C (c_X7_elementAt 12 11 x (by unfold isR; decide) (by omega) ω) (va_cwS 2 C.hts gX7_entry_X7_elementAt rfl rfl rfl md_X7_elementAt.2 ⟨Nat.le_of_ble_eq_true rfl, Nat.le_of_ble_eq_true rfl⟩) rfl rfl rfl (Nat.le_of_ble_eq_true rfl) dX7_entry_61 (Nat.zero_le _) (Nat.zero_le _) ?_
          exact g_iret C hret hlk (e1.trans (congrArg (fun z => some (Value.int z)) ((if_neg h1).trans ((if_neg h2).trans ((if_pos h3).trans ((if_neg h4).trans rfl)))))) e2 dX7_entry_64
        · refine g_aload_n C dX7_entry_37 rfl 0 rfl ?_
          refine g_get (v := .ref (ad 1)) C iX7 (by decide) (mk_0 (by decide)) rfl 0 (by decide) L10 rfl dX7_entry_38 ?_
          refine g_get (v := .ref (ad 9)) C iX5 (by decide) (mk_1 (by decide)) rfl 2 (by decide) L90 rfl dX7_entry_41 ?_
          refine g_get (v := .ref (ad 10)) C iX3 (by decide) (mk_5 (by decide)) rfl 0 (by decide) L215 rfl dX7_entry_44 ?_
          refine g_goto (tgt := 60) C dX7_entry_47 (by decide) ?_
          refine g_iload_n C dX7_entry_60 rfl 1 rfl ?_
          refine g_callS (rest := []) (st1 := [.int (f_X7_elementAt 12 10 x ω)]) C (c_X7_elementAt 12 10 x (by unfold isR; decide) (by omega) ω) (va_cwS 2 C.hts gX7_entry_X7_elementAt rfl rfl rfl md_X7_elementAt.2 ⟨Nat.le_of_ble_eq_true rfl, Nat.le_of_ble_eq_true rfl⟩) rfl rfl rfl (Nat.le_of_ble_eq_true rfl) dX7_entry_61 (Nat.zero_le _) (Nat.zero_le _) ?_
          exact g_iret C hret hlk (e1.trans (congrArg (fun z => some (Value.int z)) ((if_neg h1).trans ((if_neg h2).trans ((if_pos h3).trans ((if_pos h4).trans rfl)))))) e2 dX7_entry_64
      · refine g_bipush (v := (-5)) C dX7_entry_30 (by decide) ?_
        exact g_iret C hret hlk (e1.trans (congrArg (fun z => some (Value.int z)) ((if_neg h1).trans ((if_neg h2).trans ((if_neg h3).trans rfl))))) e2 dX7_entry_32
    · refine g_bipush (v := (-2)) C dX7_entry_13 (by decide) ?_
      exact g_iret C hret hlk (e1.trans (congrArg (fun z => some (Value.int z)) ((if_neg h1).trans ((if_pos h2).trans rfl)))) e2 dX7_entry_15
abbrev rm_X7_event : Room := { frames := 1, cells := 0, slots := 0, locals := 22 }
theorem md_X7_event : yX7_event.cls = RX7 ∧ yX7_event.cls ≠ "java/lang/invoke/MethodHandle" ∧ yX7_event.cls ≠ "java/lang/invoke/VarHandle" ∧ (parseMethodDescriptor yX7_event.desc).map (fun d => d.parameters.length) = some 2 := by decide +kernel
def f_X7_event (x : Int32) (w : Int32) (ω : Mem) : Int32 := (if x < 0 then (-2) else (if (f_X7_isWithin w 0 2 ω) = 0 then (-2) else (if x < (ω 12 4) then (if w = 0 then (f_X7_elementAt 10 13 x ω) else (if w = 1 then (f_X7_elementAt 10 14 x ω) else (f_X7_elementAt 10 15 x ω))) else (-5))))
set_option maxRecDepth 100000 in
set_option maxHeartbeats 4000000 in
theorem c_X7_event {l_ : Launch} {sa : Nat → Nat} {D : va_G} {X : Nat → ClassId} {ad : Nat → Nat} (x : Int32) (w : Int32) (ω : Mem)  : CT l_ yX7_event wsX7_event rm_X7_event sa D (tyX X) 120 ad (mk X ad ω) [.ref (ad 0), .int x, .int w] (some (.int (f_X7_event x w ω)) : Option Value) (mk X ad ω) := by
  refine ct_of [(0, .ref (ad 0)), (1, .int x), (2, .int w)] (by decide +kernel) rfl rfl (Nat.le_of_ble_eq_true rfl) rfl ?_
  intro p_ e_ s_ m_ args_ below_ meth_ c_ C hret hlk hin
  have e1 : (some (.int (f_X7_event x w ω)) : Option Value) = (some (.int (f_X7_event x w ω)) : Option Value) := rfl
  have e2 : mk X ad ω = mk X ad ω := rfl
  have iX2 : ∀ w ∈ u_ws RX2 TX2 5, w ∈ wsX7_event := by decide +kernel
  have iX5 : ∀ w ∈ u_ws RX5 TX5 8, w ∈ wsX7_event := by decide +kernel
  have iX7 : ∀ w ∈ u_ws RX7 TX7 7, w ∈ wsX7_event := by decide +kernel
  have L10 : Cond.fieldLink RX7 10 (TX7 0).1 (TX7 0).2.1 (TX7 0).2.2.1 ∈ wsX7_event := by decide +kernel
  have L164 : Cond.fieldLink RX7 164 (TX5 3).1 (TX5 3).2.1 (TX5 3).2.2.1 ∈ wsX7_event := by decide +kernel
  have L226 : Cond.fieldLink RX7 226 (TX2 4).1 (TX2 4).2.1 (TX2 4).2.2.1 ∈ wsX7_event := by decide +kernel
  have L229 : Cond.fieldLink RX7 229 (TX2 0).1 (TX2 0).2.1 (TX2 0).2.2.1 ∈ wsX7_event := by decide +kernel
  have L232 : Cond.fieldLink RX7 232 (TX2 1).1 (TX2 1).2.1 (TX2 1).2.2.1 ∈ wsX7_event := by decide +kernel
  have L235 : Cond.fieldLink RX7 235 (TX2 2).1 (TX2 2).2.1 (TX2 2).2.2.1 ∈ wsX7_event := by decide +kernel
  refine g_iload_n C dX7_event_0 rfl 1 rfl ?_
  refine g_if_lt (tgt := 13) C dX7_event_1 (by decide) (fun h1 => ?_) (fun h1 => ?_)
  · refine g_bipush (v := (-2)) C dX7_event_13 (by decide) ?_
    exact g_iret C hret hlk (e1.trans (congrArg (fun z => some (Value.int z)) ((if_pos h1).trans rfl))) e2 dX7_event_15
  · refine g_iload_n C dX7_event_4 rfl 2 rfl ?_
    refine g_iconst (v := 0) C dX7_event_5 (by decide) ?_
    refine g_iconst (v := 2) C dX7_event_6 (by decide) ?_
    refine g_callS (rest := []) (st1 := [.int (f_X7_isWithin w 0 2 ω)]) C (c_X7_isWithin w 0 2 ω) (va_cwS 3 C.hts gX7_event_X7_isWithin rfl rfl rfl md_X7_isWithin.2 ⟨Nat.le_of_ble_eq_true rfl, Nat.le_of_ble_eq_true rfl⟩) rfl rfl rfl (Nat.le_of_ble_eq_true rfl) dX7_event_7 (Nat.zero_le _) (Nat.zero_le _) ?_
    refine g_if_ne (tgt := 16) C dX7_event_10 (by decide) (fun h2 => ?_) (fun h2 => ?_)
    · refine g_iload_n C dX7_event_16 rfl 1 rfl ?_
      refine g_aload_n C dX7_event_17 rfl 0 rfl ?_
      refine g_get (v := .ref (ad 1)) C iX7 (by decide) (mk_0 (by decide)) rfl 0 (by decide) L10 rfl dX7_event_18 ?_
      refine g_get (v := .ref (ad 12)) C iX5 (by decide) (mk_1 (by decide)) rfl 3 (by decide) L164 rfl dX7_event_21 ?_
      refine g_get (v := .int (ω 12 4)) C iX2 (by decide) (mk_6 (by decide)) rfl 4 (by decide) L226 rfl dX7_event_24 ?_
      refine g_icmp_lt (tgt := 33) C dX7_event_27 (by decide) (fun h3 => ?_) (fun h3 => ?_)
      · refine g_iload_n C dX7_event_33 rfl 2 rfl ?_
        refine g_if_ne (tgt := 52) C dX7_event_34 (by decide) (fun h4 => ?_) (fun h4 => ?_)
        · refine g_iload_n C dX7_event_52 rfl 2 rfl ?_
          refine g_iconst (v := 1) C dX7_event_53 (by decide) ?_
          refine g_icmp_ne (tgt := 70) C dX7_event_54 (by decide) (fun h5 => ?_) (fun h5 => ?_)
          · refine g_aload_n C dX7_event_70 rfl 0 rfl ?_
            refine g_get (v := .ref (ad 1)) C iX7 (by decide) (mk_0 (by decide)) rfl 0 (by decide) L10 rfl dX7_event_71 ?_
            refine g_get (v := .ref (ad 12)) C iX5 (by decide) (mk_1 (by decide)) rfl 3 (by decide) L164 rfl dX7_event_74 ?_
            refine g_get (v := .ref (ad 15)) C iX2 (by decide) (mk_6 (by decide)) rfl 2 (by decide) L235 rfl dX7_event_77 ?_
            refine g_iload_n C dX7_event_80 rfl 1 rfl ?_
            refine g_callS (rest := []) (st1 := [.int (f_X7_elementAt 10 15 x ω)]) C (c_X7_elementAt 10 15 x (by unfold isR; decide) (by omega) ω) (va_cwS 2 C.hts gX7_event_X7_elementAt rfl rfl rfl md_X7_elementAt.2 ⟨Nat.le_of_ble_eq_true rfl, Nat.le_of_ble_eq_true rfl⟩) rfl rfl rfl (Nat.le_of_ble_eq_true rfl) dX7_event_81 (Nat.zero_le _) (Nat.zero_le _) ?_
            exact g_iret C hret hlk (e1.trans (congrArg (fun z => some (Value.int z)) ((if_neg h1).trans ((if_neg h2).trans ((if_pos h3).trans ((if_neg h4).trans ((if_neg h5).trans rfl))))))) e2 dX7_event_84
          · refine g_aload_n C dX7_event_57 rfl 0 rfl ?_
            refine g_get (v := .ref (ad 1)) C iX7 (by decide) (mk_0 (by decide)) rfl 0 (by decide) L10 rfl dX7_event_58 ?_
            refine g_get (v := .ref (ad 12)) C iX5 (by decide) (mk_1 (by decide)) rfl 3 (by decide) L164 rfl dX7_event_61 ?_
            refine g_get (v := .ref (ad 14)) C iX2 (by decide) (mk_6 (by decide)) rfl 1 (by decide) L232 rfl dX7_event_64 ?_
            refine g_goto (tgt := 80) C dX7_event_67 (by decide) ?_
            refine g_iload_n C dX7_event_80 rfl 1 rfl ?_
            refine g_callS (rest := []) (st1 := [.int (f_X7_elementAt 10 14 x ω)]) C (c_X7_elementAt 10 14 x (by unfold isR; decide) (by omega) ω) (va_cwS 2 C.hts gX7_event_X7_elementAt rfl rfl rfl md_X7_elementAt.2 ⟨Nat.le_of_ble_eq_true rfl, Nat.le_of_ble_eq_true rfl⟩) rfl rfl rfl (Nat.le_of_ble_eq_true rfl) dX7_event_81 (Nat.zero_le _) (Nat.zero_le _) ?_
            exact g_iret C hret hlk (e1.trans (congrArg (fun z => some (Value.int z)) ((if_neg h1).trans ((if_neg h2).trans ((if_pos h3).trans ((if_neg h4).trans ((if_pos h5).trans rfl))))))) e2 dX7_event_84
        · refine g_aload_n C dX7_event_37 rfl 0 rfl ?_
          refine g_get (v := .ref (ad 1)) C iX7 (by decide) (mk_0 (by decide)) rfl 0 (by decide) L10 rfl dX7_event_38 ?_
          refine g_get (v := .ref (ad 12)) C iX5 (by decide) (mk_1 (by decide)) rfl 3 (by decide) L164 rfl dX7_event_41 ?_
          refine g_get (v := .ref (ad 13)) C iX2 (by decide) (mk_6 (by decide)) rfl 0 (by decide) L229 rfl dX7_event_44 ?_
          refine g_iload_n C dX7_event_47 rfl 1 rfl ?_
          refine g_callS (rest := []) (st1 := [.int (f_X7_elementAt 10 13 x ω)]) C (c_X7_elementAt 10 13 x (by unfold isR; decide) (by omega) ω) (va_cwS 2 C.hts gX7_event_X7_elementAt rfl rfl rfl md_X7_elementAt.2 ⟨Nat.le_of_ble_eq_true rfl, Nat.le_of_ble_eq_true rfl⟩) rfl rfl rfl (Nat.le_of_ble_eq_true rfl) dX7_event_48 (Nat.zero_le _) (Nat.zero_le _) ?_
          exact g_iret C hret hlk (e1.trans (congrArg (fun z => some (Value.int z)) ((if_neg h1).trans ((if_neg h2).trans ((if_pos h3).trans ((if_pos h4).trans rfl)))))) e2 dX7_event_51
      · refine g_bipush (v := (-5)) C dX7_event_30 (by decide) ?_
        exact g_iret C hret hlk (e1.trans (congrArg (fun z => some (Value.int z)) ((if_neg h1).trans ((if_neg h2).trans ((if_neg h3).trans rfl))))) e2 dX7_event_32
    · refine g_bipush (v := (-2)) C dX7_event_13 (by decide) ?_
      exact g_iret C hret hlk (e1.trans (congrArg (fun z => some (Value.int z)) ((if_neg h1).trans ((if_pos h2).trans rfl)))) e2 dX7_event_15
abbrev rm_X7_count : Room := { frames := 4, cells := 0, slots := 0, locals := 88 }
theorem md_X7_count : yX7_count.cls = RX7 ∧ yX7_count.cls ≠ "java/lang/invoke/MethodHandle" ∧ yX7_count.cls ≠ "java/lang/invoke/VarHandle" ∧ (parseMethodDescriptor yX7_count.desc).map (fun d => d.parameters.length) = some 1 := by decide +kernel
def f_X7_count (w : Int32) (ω : Mem) : Int32 := (if w = 0 then (ω 1 4) else (if w = 1 then (ω 1 5) else (if w = 2 then (f_X5_draft 1 ω) else (if w = 3 then (ω 9 2) else (if w = 4 then (f_X7_elementAt 4 16 (w - 4) ω) else (if w = 5 then (f_X7_elementAt 4 16 (w - 4) ω) else (if w = 6 then (f_X7_elementAt 4 16 (w - 4) ω) else (if w = 7 then (f_X7_elementAt 4 16 (w - 4) ω) else (if w = 8 then (f_X5_flames 1 ω) else (if w = 9 then (f_X5_openValves 1 ω) else (if w = 10 then (f_X5_lockedBurners 1 ω) else (if w = 11 then (ω 1 6) else (if w = 12 then (ω 1 7) else (if w = 13 then (ω 52 1) else (if w = 14 then (ω 118 1) else (-2))))))))))))))))
set_option maxRecDepth 100000 in
set_option maxHeartbeats 4000000 in
theorem c_X7_count {l_ : Launch} {sa : Nat → Nat} {D : va_G} {X : Nat → ClassId} {ad : Nat → Nat} (w : Int32) (ω : Mem)  : CT l_ yX7_count wsX7_count rm_X7_count sa D (tyX X) 120 ad (mk X ad ω) [.ref (ad 0), .int w] (some (.int (f_X7_count w ω)) : Option Value) (mk X ad ω) := by
  refine ct_of [(0, .ref (ad 0)), (1, .int w)] (by decide +kernel) rfl rfl (Nat.le_of_ble_eq_true rfl) rfl ?_
  intro p_ e_ s_ m_ args_ below_ meth_ c_ C hret hlk hin
  have e1 : (some (.int (f_X7_count w ω)) : Option Value) = (some (.int (f_X7_count w ω)) : Option Value) := rfl
  have e2 : mk X ad ω = mk X ad ω := rfl
  have iX1 : ∀ w ∈ u_ws RX1 TX1 2, w ∈ wsX7_count := by decide +kernel
  have iX2 : ∀ w ∈ u_ws RX2 TX2 5, w ∈ wsX7_count := by decide +kernel
  have iX3 : ∀ w ∈ u_ws RX3 TX3 3, w ∈ wsX7_count := by decide +kernel
  have iX5 : ∀ w ∈ u_ws RX5 TX5 8, w ∈ wsX7_count := by decide +kernel
  have iX6 : ∀ w ∈ u_ws RX6 TX6 2, w ∈ wsX7_count := by decide +kernel
  have iX7 : ∀ w ∈ u_ws RX7 TX7 7, w ∈ wsX7_count := by decide +kernel
  have L10 : Cond.fieldLink RX7 10 (TX7 0).1 (TX7 0).2.1 (TX7 0).2.2.1 ∈ wsX7_count := by decide +kernel
  have L102 : Cond.fieldLink RX7 102 (TX3 2).1 (TX3 2).2.1 (TX3 2).2.2.1 ∈ wsX7_count := by decide +kernel
  have L160 : Cond.fieldLink RX7 160 (TX5 4).1 (TX5 4).2.1 (TX5 4).2.2.1 ∈ wsX7_count := by decide +kernel
  have L164 : Cond.fieldLink RX7 164 (TX5 3).1 (TX5 3).2.1 (TX5 3).2.2.1 ∈ wsX7_count := by decide +kernel
  have L180 : Cond.fieldLink RX7 180 (TX6 1).1 (TX6 1).2.1 (TX6 1).2.2.1 ∈ wsX7_count := by decide +kernel
  have L190 : Cond.fieldLink RX7 190 (TX1 1).1 (TX1 1).2.1 (TX1 1).2.2.1 ∈ wsX7_count := by decide +kernel
  have L236 : Cond.fieldLink RX7 236 (TX5 5).1 (TX5 5).2.1 (TX5 5).2.2.1 ∈ wsX7_count := by decide +kernel
  have L239 : Cond.fieldLink RX7 239 (TX2 3).1 (TX2 3).2.1 (TX2 3).2.2.1 ∈ wsX7_count := by decide +kernel
  have L248 : Cond.fieldLink RX7 248 (TX5 6).1 (TX5 6).2.1 (TX5 6).2.2.1 ∈ wsX7_count := by decide +kernel
  have L251 : Cond.fieldLink RX7 251 (TX5 7).1 (TX5 7).2.1 (TX5 7).2.2.1 ∈ wsX7_count := by decide +kernel
  have L32 : Cond.fieldLink RX7 32 (TX7 4).1 (TX7 4).2.1 (TX7 4).2.2.1 ∈ wsX7_count := by decide +kernel
  have L39 : Cond.fieldLink RX7 39 (TX7 5).1 (TX7 5).2.1 (TX7 5).2.2.1 ∈ wsX7_count := by decide +kernel
  have L90 : Cond.fieldLink RX7 90 (TX5 2).1 (TX5 2).2.1 (TX5 2).2.2.1 ∈ wsX7_count := by decide +kernel
  refine g_iload_n C dX7_count_0 rfl 1 rfl ?_
  by_cases h1 : w = 0
  · refine g_tabIn (tgt := 76) C dX7_count_1 (by rw [h1]; decide) (by rw [h1]; decide) (by rw [h1]; rfl) (by decide) ?_
    refine g_aload_n C dX7_count_76 rfl 0 rfl ?_
    refine g_get (v := .ref (ad 1)) C iX7 (by decide) (mk_0 (by decide)) rfl 0 (by decide) L10 rfl dX7_count_77 ?_
    refine g_get (v := .int (ω 1 4)) C iX5 (by decide) (mk_1 (by decide)) rfl 4 (by decide) L160 rfl dX7_count_80 ?_
    exact g_iret C hret hlk (e1.trans (congrArg (fun z => some (Value.int z)) ((if_pos h1).trans rfl))) e2 dX7_count_83
  · by_cases h2 : w = 1
    · refine g_tabIn (tgt := 84) C dX7_count_1 (by rw [h2]; decide) (by rw [h2]; decide) (by rw [h2]; rfl) (by decide) ?_
      refine g_aload_n C dX7_count_84 rfl 0 rfl ?_
      refine g_get (v := .ref (ad 1)) C iX7 (by decide) (mk_0 (by decide)) rfl 0 (by decide) L10 rfl dX7_count_85 ?_
      refine g_get (v := .int (ω 1 5)) C iX5 (by decide) (mk_1 (by decide)) rfl 5 (by decide) L236 rfl dX7_count_88 ?_
      exact g_iret C hret hlk (e1.trans (congrArg (fun z => some (Value.int z)) ((if_neg h1).trans ((if_pos h2).trans rfl)))) e2 dX7_count_91
    · by_cases h3 : w = 2
      · refine g_tabIn (tgt := 92) C dX7_count_1 (by rw [h3]; decide) (by rw [h3]; decide) (by rw [h3]; rfl) (by decide) ?_
        refine g_aload_n C dX7_count_92 rfl 0 rfl ?_
        refine g_get (v := .ref (ad 1)) C iX7 (by decide) (mk_0 (by decide)) rfl 0 (by decide) L10 rfl dX7_count_93 ?_
        refine g_callV (rest := []) (st1 := [.int (f_X5_draft 1 ω)]) C (c_X5_draft 1 isS_1 ω) (cwV 0 C.hts gX7_count_X5_draft rfl rfl rfl md_X5_draft ⟨Nat.le_of_ble_eq_true rfl, Nat.le_of_ble_eq_true rfl⟩) (by decide) (mk_1 (by decide)) rfl rfl rfl rfl rfl (Nat.le_of_ble_eq_true rfl) dX7_count_96 (Nat.zero_le _) (Nat.zero_le _) ?_
        exact g_iret C hret hlk (e1.trans (congrArg (fun z => some (Value.int z)) ((if_neg h1).trans ((if_neg h2).trans ((if_pos h3).trans rfl))))) e2 dX7_count_99
      · by_cases h4 : w = 3
        · refine g_tabIn (tgt := 100) C dX7_count_1 (by rw [h4]; decide) (by rw [h4]; decide) (by rw [h4]; rfl) (by decide) ?_
          refine g_aload_n C dX7_count_100 rfl 0 rfl ?_
          refine g_get (v := .ref (ad 1)) C iX7 (by decide) (mk_0 (by decide)) rfl 0 (by decide) L10 rfl dX7_count_101 ?_
          refine g_get (v := .ref (ad 9)) C iX5 (by decide) (mk_1 (by decide)) rfl 2 (by decide) L90 rfl dX7_count_104 ?_
          refine g_get (v := .int (ω 9 2)) C iX3 (by decide) (mk_5 (by decide)) rfl 2 (by decide) L102 rfl dX7_count_107 ?_
          exact g_iret C hret hlk (e1.trans (congrArg (fun z => some (Value.int z)) ((if_neg h1).trans ((if_neg h2).trans ((if_neg h3).trans ((if_pos h4).trans rfl)))))) e2 dX7_count_110
        · by_cases h5 : w = 4
          · refine g_tabIn (tgt := 111) C dX7_count_1 (by rw [h5]; decide) (by rw [h5]; decide) (by rw [h5]; rfl) (by decide) ?_
            refine g_aload_n C dX7_count_111 rfl 0 rfl ?_
            refine g_get (v := .ref (ad 1)) C iX7 (by decide) (mk_0 (by decide)) rfl 0 (by decide) L10 rfl dX7_count_112 ?_
            refine g_get (v := .ref (ad 12)) C iX5 (by decide) (mk_1 (by decide)) rfl 3 (by decide) L164 rfl dX7_count_115 ?_
            refine g_get (v := .ref (ad 16)) C iX2 (by decide) (mk_6 (by decide)) rfl 3 (by decide) L239 rfl dX7_count_118 ?_
            refine g_iload_n C dX7_count_121 rfl 1 rfl ?_
            refine g_iconst (v := 4) C dX7_count_122 (by decide) ?_
            refine g_isub (v := (w - 4)) C dX7_count_123 rfl ?_
            refine g_callS (rest := []) (st1 := [.int (f_X7_elementAt 4 16 (w - 4) ω)]) C (c_X7_elementAt 4 16 (w - 4) (by unfold isR; decide) (by omega) ω) (va_cwS 2 C.hts gX7_count_X7_elementAt rfl rfl rfl md_X7_elementAt.2 ⟨Nat.le_of_ble_eq_true rfl, Nat.le_of_ble_eq_true rfl⟩) rfl rfl rfl (Nat.le_of_ble_eq_true rfl) dX7_count_124 (Nat.zero_le _) (Nat.zero_le _) ?_
            exact g_iret C hret hlk (e1.trans (congrArg (fun z => some (Value.int z)) ((if_neg h1).trans ((if_neg h2).trans ((if_neg h3).trans ((if_neg h4).trans ((if_pos h5).trans rfl))))))) e2 dX7_count_127
          · by_cases h6 : w = 5
            · refine g_tabIn (tgt := 111) C dX7_count_1 (by rw [h6]; decide) (by rw [h6]; decide) (by rw [h6]; rfl) (by decide) ?_
              refine g_aload_n C dX7_count_111 rfl 0 rfl ?_
              refine g_get (v := .ref (ad 1)) C iX7 (by decide) (mk_0 (by decide)) rfl 0 (by decide) L10 rfl dX7_count_112 ?_
              refine g_get (v := .ref (ad 12)) C iX5 (by decide) (mk_1 (by decide)) rfl 3 (by decide) L164 rfl dX7_count_115 ?_
              refine g_get (v := .ref (ad 16)) C iX2 (by decide) (mk_6 (by decide)) rfl 3 (by decide) L239 rfl dX7_count_118 ?_
              refine g_iload_n C dX7_count_121 rfl 1 rfl ?_
              refine g_iconst (v := 4) C dX7_count_122 (by decide) ?_
              refine g_isub (v := (w - 4)) C dX7_count_123 rfl ?_
              refine g_callS (rest := []) (st1 := [.int (f_X7_elementAt 4 16 (w - 4) ω)]) C (c_X7_elementAt 4 16 (w - 4) (by unfold isR; decide) (by omega) ω) (va_cwS 2 C.hts gX7_count_X7_elementAt rfl rfl rfl md_X7_elementAt.2 ⟨Nat.le_of_ble_eq_true rfl, Nat.le_of_ble_eq_true rfl⟩) rfl rfl rfl (Nat.le_of_ble_eq_true rfl) dX7_count_124 (Nat.zero_le _) (Nat.zero_le _) ?_
              exact g_iret C hret hlk (e1.trans (congrArg (fun z => some (Value.int z)) ((if_neg h1).trans ((if_neg h2).trans ((if_neg h3).trans ((if_neg h4).trans ((if_neg h5).trans ((if_pos h6).trans rfl)))))))) e2 dX7_count_127
            · by_cases h7 : w = 6
              · refine g_tabIn (tgt := 111) C dX7_count_1 (by rw [h7]; decide) (by rw [h7]; decide) (by rw [h7]; rfl) (by decide) ?_
                refine g_aload_n C dX7_count_111 rfl 0 rfl ?_
                refine g_get (v := .ref (ad 1)) C iX7 (by decide) (mk_0 (by decide)) rfl 0 (by decide) L10 rfl dX7_count_112 ?_
                refine g_get (v := .ref (ad 12)) C iX5 (by decide) (mk_1 (by decide)) rfl 3 (by decide) L164 rfl dX7_count_115 ?_
                refine g_get (v := .ref (ad 16)) C iX2 (by decide) (mk_6 (by decide)) rfl 3 (by decide) L239 rfl dX7_count_118 ?_
                refine g_iload_n C dX7_count_121 rfl 1 rfl ?_
                refine g_iconst (v := 4) C dX7_count_122 (by decide) ?_
                refine g_isub (v := (w - 4)) C dX7_count_123 rfl ?_
                refine g_callS (rest := []) (st1 := [.int (f_X7_elementAt 4 16 (w - 4) ω)]) C (c_X7_elementAt 4 16 (w - 4) (by unfold isR; decide) (by omega) ω) (va_cwS 2 C.hts gX7_count_X7_elementAt rfl rfl rfl md_X7_elementAt.2 ⟨Nat.le_of_ble_eq_true rfl, Nat.le_of_ble_eq_true rfl⟩) rfl rfl rfl (Nat.le_of_ble_eq_true rfl) dX7_count_124 (Nat.zero_le _) (Nat.zero_le _) ?_
                exact g_iret C hret hlk (e1.trans (congrArg (fun z => some (Value.int z)) ((if_neg h1).trans ((if_neg h2).trans ((if_neg h3).trans ((if_neg h4).trans ((if_neg h5).trans ((if_neg h6).trans ((if_pos h7).trans rfl))))))))) e2 dX7_count_127
              · by_cases h8 : w = 7
                · refine g_tabIn (tgt := 111) C dX7_count_1 (by rw [h8]; decide) (by rw [h8]; decide) (by rw [h8]; rfl) (by decide) ?_
                  refine g_aload_n C dX7_count_111 rfl 0 rfl ?_
                  refine g_get (v := .ref (ad 1)) C iX7 (by decide) (mk_0 (by decide)) rfl 0 (by decide) L10 rfl dX7_count_112 ?_
                  refine g_get (v := .ref (ad 12)) C iX5 (by decide) (mk_1 (by decide)) rfl 3 (by decide) L164 rfl dX7_count_115 ?_
                  refine g_get (v := .ref (ad 16)) C iX2 (by decide) (mk_6 (by decide)) rfl 3 (by decide) L239 rfl dX7_count_118 ?_
                  refine g_iload_n C dX7_count_121 rfl 1 rfl ?_
                  refine g_iconst (v := 4) C dX7_count_122 (by decide) ?_
                  refine g_isub (v := (w - 4)) C dX7_count_123 rfl ?_
                  refine g_callS (rest := []) (st1 := [.int (f_X7_elementAt 4 16 (w - 4) ω)]) C (c_X7_elementAt 4 16 (w - 4) (by unfold isR; decide) (by omega) ω) (va_cwS 2 C.hts gX7_count_X7_elementAt rfl rfl rfl md_X7_elementAt.2 ⟨Nat.le_of_ble_eq_true rfl, Nat.le_of_ble_eq_true rfl⟩) rfl rfl rfl (Nat.le_of_ble_eq_true rfl) dX7_count_124 (Nat.zero_le _) (Nat.zero_le _) ?_
                  exact g_iret C hret hlk (e1.trans (congrArg (fun z => some (Value.int z)) ((if_neg h1).trans ((if_neg h2).trans ((if_neg h3).trans ((if_neg h4).trans ((if_neg h5).trans ((if_neg h6).trans ((if_neg h7).trans ((if_pos h8).trans rfl)))))))))) e2 dX7_count_127
                · by_cases h9 : w = 8
                  · refine g_tabIn (tgt := 128) C dX7_count_1 (by rw [h9]; decide) (by rw [h9]; decide) (by rw [h9]; rfl) (by decide) ?_
                    refine g_aload_n C dX7_count_128 rfl 0 rfl ?_
                    refine g_get (v := .ref (ad 1)) C iX7 (by decide) (mk_0 (by decide)) rfl 0 (by decide) L10 rfl dX7_count_129 ?_
                    refine g_callV (rest := []) (st1 := [.int (f_X5_flames 1 ω)]) C (c_X5_flames 1 isS_1 ω) (cwV 0 C.hts gX7_count_X5_flames rfl rfl rfl md_X5_flames ⟨Nat.le_of_ble_eq_true rfl, Nat.le_of_ble_eq_true rfl⟩) (by decide) (mk_1 (by decide)) rfl rfl rfl rfl rfl (Nat.le_of_ble_eq_true rfl) dX7_count_132 (Nat.zero_le _) (Nat.zero_le _) ?_
                    exact g_iret C hret hlk (e1.trans (congrArg (fun z => some (Value.int z)) ((if_neg h1).trans ((if_neg h2).trans ((if_neg h3).trans ((if_neg h4).trans ((if_neg h5).trans ((if_neg h6).trans ((if_neg h7).trans ((if_neg h8).trans ((if_pos h9).trans rfl))))))))))) e2 dX7_count_135
                  · by_cases h10 : w = 9
                    · refine g_tabIn (tgt := 136) C dX7_count_1 (by rw [h10]; decide) (by rw [h10]; decide) (by rw [h10]; rfl) (by decide) ?_
                      refine g_aload_n C dX7_count_136 rfl 0 rfl ?_
                      refine g_get (v := .ref (ad 1)) C iX7 (by decide) (mk_0 (by decide)) rfl 0 (by decide) L10 rfl dX7_count_137 ?_
                      refine g_callV (rest := []) (st1 := [.int (f_X5_openValves 1 ω)]) C (c_X5_openValves 1 isS_1 ω) (cwV 0 C.hts gX7_count_X5_openValves rfl rfl rfl md_X5_openValves ⟨Nat.le_of_ble_eq_true rfl, Nat.le_of_ble_eq_true rfl⟩) (by decide) (mk_1 (by decide)) rfl rfl rfl rfl rfl (Nat.le_of_ble_eq_true rfl) dX7_count_140 (Nat.zero_le _) (Nat.zero_le _) ?_
                      exact g_iret C hret hlk (e1.trans (congrArg (fun z => some (Value.int z)) ((if_neg h1).trans ((if_neg h2).trans ((if_neg h3).trans ((if_neg h4).trans ((if_neg h5).trans ((if_neg h6).trans ((if_neg h7).trans ((if_neg h8).trans ((if_neg h9).trans ((if_pos h10).trans rfl)))))))))))) e2 dX7_count_143
                    · by_cases h11 : w = 10
                      · refine g_tabIn (tgt := 144) C dX7_count_1 (by rw [h11]; decide) (by rw [h11]; decide) (by rw [h11]; rfl) (by decide) ?_
                        refine g_aload_n C dX7_count_144 rfl 0 rfl ?_
                        refine g_get (v := .ref (ad 1)) C iX7 (by decide) (mk_0 (by decide)) rfl 0 (by decide) L10 rfl dX7_count_145 ?_
                        refine g_callV (rest := []) (st1 := [.int (f_X5_lockedBurners 1 ω)]) C (c_X5_lockedBurners 1 isS_1 ω) (cwV 0 C.hts gX7_count_X5_lockedBurners rfl rfl rfl md_X5_lockedBurners ⟨Nat.le_of_ble_eq_true rfl, Nat.le_of_ble_eq_true rfl⟩) (by decide) (mk_1 (by decide)) rfl rfl rfl rfl rfl (Nat.le_of_ble_eq_true rfl) dX7_count_148 (Nat.zero_le _) (Nat.zero_le _) ?_
                        exact g_iret C hret hlk (e1.trans (congrArg (fun z => some (Value.int z)) ((if_neg h1).trans ((if_neg h2).trans ((if_neg h3).trans ((if_neg h4).trans ((if_neg h5).trans ((if_neg h6).trans ((if_neg h7).trans ((if_neg h8).trans ((if_neg h9).trans ((if_neg h10).trans ((if_pos h11).trans rfl))))))))))))) e2 dX7_count_151
                      · by_cases h12 : w = 11
                        · refine g_tabIn (tgt := 152) C dX7_count_1 (by rw [h12]; decide) (by rw [h12]; decide) (by rw [h12]; rfl) (by decide) ?_
                          refine g_aload_n C dX7_count_152 rfl 0 rfl ?_
                          refine g_get (v := .ref (ad 1)) C iX7 (by decide) (mk_0 (by decide)) rfl 0 (by decide) L10 rfl dX7_count_153 ?_
                          refine g_get (v := .int (ω 1 6)) C iX5 (by decide) (mk_1 (by decide)) rfl 6 (by decide) L248 rfl dX7_count_156 ?_
                          exact g_iret C hret hlk (e1.trans (congrArg (fun z => some (Value.int z)) ((if_neg h1).trans ((if_neg h2).trans ((if_neg h3).trans ((if_neg h4).trans ((if_neg h5).trans ((if_neg h6).trans ((if_neg h7).trans ((if_neg h8).trans ((if_neg h9).trans ((if_neg h10).trans ((if_neg h11).trans ((if_pos h12).trans rfl)))))))))))))) e2 dX7_count_159
                        · by_cases h13 : w = 12
                          · refine g_tabIn (tgt := 160) C dX7_count_1 (by rw [h13]; decide) (by rw [h13]; decide) (by rw [h13]; rfl) (by decide) ?_
                            refine g_aload_n C dX7_count_160 rfl 0 rfl ?_
                            refine g_get (v := .ref (ad 1)) C iX7 (by decide) (mk_0 (by decide)) rfl 0 (by decide) L10 rfl dX7_count_161 ?_
                            refine g_get (v := .int (ω 1 7)) C iX5 (by decide) (mk_1 (by decide)) rfl 7 (by decide) L251 rfl dX7_count_164 ?_
                            exact g_iret C hret hlk (e1.trans (congrArg (fun z => some (Value.int z)) ((if_neg h1).trans ((if_neg h2).trans ((if_neg h3).trans ((if_neg h4).trans ((if_neg h5).trans ((if_neg h6).trans ((if_neg h7).trans ((if_neg h8).trans ((if_neg h9).trans ((if_neg h10).trans ((if_neg h11).trans ((if_neg h12).trans ((if_pos h13).trans rfl))))))))))))))) e2 dX7_count_167
                          · by_cases h14 : w = 13
                            · refine g_tabIn (tgt := 168) C dX7_count_1 (by rw [h14]; decide) (by rw [h14]; decide) (by rw [h14]; rfl) (by decide) ?_
                              refine g_aload_n C dX7_count_168 rfl 0 rfl ?_
                              refine g_get (v := .ref (ad 52)) C iX7 (by decide) (mk_0 (by decide)) rfl 4 (by decide) L32 rfl dX7_count_169 ?_
                              refine g_get (v := .int (ω 52 1)) C iX1 (by decide) (mk_7 (by decide)) rfl 1 (by decide) L190 rfl dX7_count_172 ?_
                              exact g_iret C hret hlk (e1.trans (congrArg (fun z => some (Value.int z)) ((if_neg h1).trans ((if_neg h2).trans ((if_neg h3).trans ((if_neg h4).trans ((if_neg h5).trans ((if_neg h6).trans ((if_neg h7).trans ((if_neg h8).trans ((if_neg h9).trans ((if_neg h10).trans ((if_neg h11).trans ((if_neg h12).trans ((if_neg h13).trans ((if_pos h14).trans rfl)))))))))))))))) e2 dX7_count_175
                            · by_cases h15 : w = 14
                              · refine g_tabIn (tgt := 176) C dX7_count_1 (by rw [h15]; decide) (by rw [h15]; decide) (by rw [h15]; rfl) (by decide) ?_
                                refine g_aload_n C dX7_count_176 rfl 0 rfl ?_
                                refine g_get (v := .ref (ad 118)) C iX7 (by decide) (mk_0 (by decide)) rfl 5 (by decide) L39 rfl dX7_count_177 ?_
                                refine g_get (v := .int (ω 118 1)) C iX6 (by decide) (mk_9 (by decide)) rfl 1 (by decide) L180 rfl dX7_count_180 ?_
                                exact g_iret C hret hlk (e1.trans (congrArg (fun z => some (Value.int z)) ((if_neg h1).trans ((if_neg h2).trans ((if_neg h3).trans ((if_neg h4).trans ((if_neg h5).trans ((if_neg h6).trans ((if_neg h7).trans ((if_neg h8).trans ((if_neg h9).trans ((if_neg h10).trans ((if_neg h11).trans ((if_neg h12).trans ((if_neg h13).trans ((if_neg h14).trans ((if_pos h15).trans rfl))))))))))))))))) e2 dX7_count_183
                              · refine g_tabOut (tgt := 184) C dX7_count_1 (tab_out 0 14 (fun k hk hz => by
                                  rcases (show k = 0 ∨ k = 1 ∨ k = 2 ∨ k = 3 ∨ k = 4 ∨ k = 5 ∨ k = 6 ∨ k = 7 ∨ k = 8 ∨ k = 9 ∨ k = 10 ∨ k = 11 ∨ k = 12 ∨ k = 13 ∨ k = 14 by omega) with rfl | rfl | rfl | rfl | rfl | rfl | rfl | rfl | rfl | rfl | rfl | rfl | rfl | rfl | rfl
                                  · exact h1 (Int32.toInt_inj.mp (hz.trans (by decide)))
                                  · exact h2 (Int32.toInt_inj.mp (hz.trans (by decide)))
                                  · exact h3 (Int32.toInt_inj.mp (hz.trans (by decide)))
                                  · exact h4 (Int32.toInt_inj.mp (hz.trans (by decide)))
                                  · exact h5 (Int32.toInt_inj.mp (hz.trans (by decide)))
                                  · exact h6 (Int32.toInt_inj.mp (hz.trans (by decide)))
                                  · exact h7 (Int32.toInt_inj.mp (hz.trans (by decide)))
                                  · exact h8 (Int32.toInt_inj.mp (hz.trans (by decide)))
                                  · exact h9 (Int32.toInt_inj.mp (hz.trans (by decide)))
                                  · exact h10 (Int32.toInt_inj.mp (hz.trans (by decide)))
                                  · exact h11 (Int32.toInt_inj.mp (hz.trans (by decide)))
                                  · exact h12 (Int32.toInt_inj.mp (hz.trans (by decide)))
                                  · exact h13 (Int32.toInt_inj.mp (hz.trans (by decide)))
                                  · exact h14 (Int32.toInt_inj.mp (hz.trans (by decide)))
                                  · exact h15 (Int32.toInt_inj.mp (hz.trans (by decide)))
                                  )) (by decide) ?_
                                refine g_bipush (v := (-2)) C dX7_count_184 (by decide) ?_
                                exact g_iret C hret hlk (e1.trans (congrArg (fun z => some (Value.int z)) ((if_neg h1).trans ((if_neg h2).trans ((if_neg h3).trans ((if_neg h4).trans ((if_neg h5).trans ((if_neg h6).trans ((if_neg h7).trans ((if_neg h8).trans ((if_neg h9).trans ((if_neg h10).trans ((if_neg h11).trans ((if_neg h12).trans ((if_neg h13).trans ((if_neg h14).trans ((if_neg h15).trans rfl))))))))))))))))) e2 dX7_count_186
abbrev rm_X7_setting : Room := { frames := 2, cells := 0, slots := 0, locals := 42 }
theorem md_X7_setting : yX7_setting.cls = RX7 ∧ yX7_setting.cls ≠ "java/lang/invoke/MethodHandle" ∧ yX7_setting.cls ≠ "java/lang/invoke/VarHandle" ∧ (parseMethodDescriptor yX7_setting.desc).map (fun d => d.parameters.length) = some 1 := by decide +kernel
def f_X7_setting (w : Int32) (ω : Mem) : Int32 := (if (f_X4_isOne w ω) = 0 then (-1) else (f_X4_valueOf 2 w ω))
set_option maxRecDepth 100000 in
set_option maxHeartbeats 4000000 in
theorem c_X7_setting {l_ : Launch} {sa : Nat → Nat} {D : va_G} {X : Nat → ClassId} {ad : Nat → Nat} (w : Int32) (ω : Mem)  : CT l_ yX7_setting wsX7_setting rm_X7_setting sa D (tyX X) 120 ad (mk X ad ω) [.ref (ad 0), .int w] (some (.int (f_X7_setting w ω)) : Option Value) (mk X ad ω) := by
  refine ct_of [(0, .ref (ad 0)), (1, .int w)] (by decide +kernel) rfl rfl (Nat.le_of_ble_eq_true rfl) rfl ?_
  intro p_ e_ s_ m_ args_ below_ meth_ c_ C hret hlk hin
  have e1 : (some (.int (f_X7_setting w ω)) : Option Value) = (some (.int (f_X7_setting w ω)) : Option Value) := rfl
  have e2 : mk X ad ω = mk X ad ω := rfl
  have iX5 : ∀ w ∈ u_ws RX5 TX5 8, w ∈ wsX7_setting := by decide +kernel
  have iX7 : ∀ w ∈ u_ws RX7 TX7 7, w ∈ wsX7_setting := by decide +kernel
  have L10 : Cond.fieldLink RX7 10 (TX7 0).1 (TX7 0).2.1 (TX7 0).2.2.1 ∈ wsX7_setting := by decide +kernel
  have L57 : Cond.fieldLink RX7 57 (TX5 0).1 (TX5 0).2.1 (TX5 0).2.2.1 ∈ wsX7_setting := by decide +kernel
  refine g_iload_n C dX7_setting_0 rfl 1 rfl ?_
  refine g_callS (rest := []) (st1 := [.int (f_X4_isOne w ω)]) C (c_X4_isOne w ω) (va_cwS 1 C.hts gX7_setting_X4_isOne rfl rfl rfl md_X4_isOne.2 ⟨Nat.le_of_ble_eq_true rfl, Nat.le_of_ble_eq_true rfl⟩) rfl rfl rfl (Nat.le_of_ble_eq_true rfl) dX7_setting_1 (Nat.zero_le _) (Nat.zero_le _) ?_
  refine g_if_ne (tgt := 9) C dX7_setting_4 (by decide) (fun h1 => ?_) (fun h1 => ?_)
  · refine g_aload_n C dX7_setting_9 rfl 0 rfl ?_
    refine g_get (v := .ref (ad 1)) C iX7 (by decide) (mk_0 (by decide)) rfl 0 (by decide) L10 rfl dX7_setting_10 ?_
    refine g_get (v := .ref (ad 2)) C iX5 (by decide) (mk_1 (by decide)) rfl 0 (by decide) L57 rfl dX7_setting_13 ?_
    refine g_iload_n C dX7_setting_16 rfl 1 rfl ?_
    refine g_callV (rest := []) (st1 := [.int (f_X4_valueOf 2 w ω)]) C (c_X4_valueOf 2 w (by unfold isSet isR; decide) ω) (cwV 1 C.hts gX7_setting_X4_valueOf rfl rfl rfl md_X4_valueOf ⟨Nat.le_of_ble_eq_true rfl, Nat.le_of_ble_eq_true rfl⟩) (by decide) (mk_2 (by decide)) rfl rfl rfl rfl rfl (Nat.le_of_ble_eq_true rfl) dX7_setting_17 (Nat.zero_le _) (Nat.zero_le _) ?_
    exact g_iret C hret hlk (e1.trans (congrArg (fun z => some (Value.int z)) ((if_neg h1).trans rfl))) e2 dX7_setting_20
  · refine g_iconst (v := (-1)) C dX7_setting_7 (by decide) ?_
    exact g_iret C hret hlk (e1.trans (congrArg (fun z => some (Value.int z)) ((if_pos h1).trans rfl))) e2 dX7_setting_8
