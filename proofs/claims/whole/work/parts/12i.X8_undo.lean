abbrev rm_X8_undo : Room := { frames := 0, cells := 0, slots := 0, locals := 0 }
theorem md_X8_undo : yX8_undo.cls = RX8 ∧ yX8_undo.cls ≠ "java/lang/invoke/MethodHandle" ∧ yX8_undo.cls ≠ "java/lang/invoke/VarHandle" ∧ (parseMethodDescriptor yX8_undo.desc).map (fun d => d.parameters.length) = some 0 := by decide +kernel
def f_X8_undo_27 : Nat → Nat → Mem → Int32 × Mem
  | 0, _, ω => (0, ω)
  | fu + 1, j, ω => (if 108 ≤ j then ((ω 120 4), ω) else (f_X8_undo_27 fu (j + 1) (st ω 121 j (ω 123 (108 * ((ω 120 4).toNatClampNeg) + j)))))
set_option maxRecDepth 100000 in
set_option maxHeartbeats 4000000 in
theorem k_X8_undo_27 {l_ : Launch} {p_ : Program} {e_ : Env} {s_ : State} {m_ : MethodId} {args_ : Array Value} {below_ : List Frame} {meth_ : Method} {c_ : Code} {sa : Nat → Nat} {D : va_G} {X : Nat → ClassId} {ad : Nat → Nat} {G0 : Nat → va_E} (fu : Nat)  (C : GC p_ rm_X8_undo s_ m_ args_ meth_ c_ cX8_undo 2 wsX8_undo RX8 sa D (tyX X) (va_A (gw 128 ad G0) s_.heap.size)) (hret : meth_.sig.returnType = (some .int)) (hlk : meth_.locks = false) : ∀ (j : Nat) (ω : Mem) (h3 : rg (ω 120 4) 3) (hj : j ≤ 108) (hfuel : 108 < j + fu) (rv : Option Value) (G2 : Nat → va_E) (e1 : rv = some (.int (f_X8_undo_27 fu j ω).1)) (e2 : G2 = mk X ad (f_X8_undo_27 fu j ω).2), GV p_ l_ e_ rm_X8_undo s_ m_ args_ below_ meth_ c_ 0 0 (CQ below_ args_ s_ D 128 ad G0 rv G2) D (va_A (gw 128 ad G0) s_.heap.size) 2 128 ad (mk X ad ω) [(0, .ref (ad 120)), (1, .int (nI (j)))] 27 [] := by
  have iX8 : ∀ w ∈ u_ws RX8 TX8 14, w ∈ wsX8_undo := by decide +kernel
  have L16 : Cond.fieldLink RX8 16 (TX8 3).1 (TX8 3).2.1 (TX8 3).2.2.1 ∈ wsX8_undo := by decide +kernel
  have L39 : Cond.fieldLink RX8 39 (TX8 4).1 (TX8 4).2.1 (TX8 4).2.2.1 ∈ wsX8_undo := by decide +kernel
  have L7 : Cond.fieldLink RX8 7 (TX8 1).1 (TX8 1).2.1 (TX8 1).2.2.1 ∈ wsX8_undo := by decide +kernel
  induction fu with
  | zero =>
    intro j ω h3 hj hfuel rv G2 e1 e2
    exact absurd hfuel (by omega)
  | succ fu ih =>
    intro j ω h3 hj hfuel rv G2 e1 e2
    refine g_iload_n C dX8_undo_27 rfl 1 rfl ?_
    refine g_bipush (v := 108) C dX8_undo_28 (by decide) ?_
    refine g_icmp_ge (tgt := 59) C dX8_undo_30 (by decide) (fun h1 => ?_) (fun h1 => ?_)
    · have h1n := (nI_leI (a := 108) (b := j) (by omega) (by omega)).mp h1
      refine g_aload_n C dX8_undo_59 rfl 0 rfl ?_
      refine g_get (v := .int (ω 120 4)) C iX8 (by decide) (mk_11 (by decide)) rfl 4 (by decide) L39 rfl dX8_undo_60 ?_
      exact g_iret C hret hlk (e1.trans (pr1 (v := (ω 120 4)) (w := ω) ((if_pos h1n).trans rfl))) (e2.trans (pr2 (v := (ω 120 4)) (w := ω) ((if_pos h1n).trans rfl))) dX8_undo_63
    · have h1n := (not_congr (nI_leI (a := 108) (b := j) (by omega) (by omega))).mp h1
      refine g_aload_n C dX8_undo_33 rfl 0 rfl ?_
      refine g_get (v := .ref (ad 121)) C iX8 (by decide) (mk_11 (by decide)) rfl 1 (by decide) L7 rfl dX8_undo_34 ?_
      refine g_iload_n C dX8_undo_37 rfl 1 rfl ?_
      refine g_aload_n C dX8_undo_38 rfl 0 rfl ?_
      refine g_get (v := .ref (ad 123)) C iX8 (by decide) (mk_11 (by decide)) rfl 3 (by decide) L16 rfl dX8_undo_39 ?_
      refine g_bipush (v := 108) C dX8_undo_42 (by decide) ?_
      refine g_aload_n C dX8_undo_44 rfl 0 rfl ?_
      refine g_get (v := .int (ω 120 4)) C iX8 (by decide) (mk_11 (by decide)) rfl 4 (by decide) L39 rfl dX8_undo_45 ?_
      have hz2 : (ω 120 4).toNatClampNeg ≤ _ := (h3).2
      refine gv_eqS (st' := [.int (nI ((ω 120 4).toNatClampNeg)), .int 108, .ref (ad 123), .int (nI (j)), .ref (ad 121)]) (congrArg (fun z : Int32 => ([Value.int z, .int 108, .ref (ad 123), .int (nI (j)), .ref (ad 121)] : List Value)) (h3).1) ?_
      refine g_imul (v := (nI (108 * ((ω 120 4).toNatClampNeg)))) C dX8_undo_48 (pk_mul (108) ((ω 120 4).toNatClampNeg)) ?_
      refine g_iload_n C dX8_undo_49 rfl 1 rfl ?_
      refine g_iadd (v := (nI (108 * ((ω 120 4).toNatClampNeg) + j))) C dX8_undo_50 (nI_add (108 * ((ω 120 4).toNatClampNeg)) (j)) ?_
      refine g_iald (k := 108 * ((ω 120 4).toNatClampNeg) + j) C 0 (by decide) (mk_12n (N := 432) (by decide) (by decide)) rfl (vp_in_nI (n := 108 * ((ω 120 4).toNatClampNeg) + j) (by omega) (by decide)) (nI_clamp (n := 108 * ((ω 120 4).toNatClampNeg) + j) (by omega)) dX8_undo_51 ?_
      refine g_iast (k := j) C 0 (by decide) (mk_12n (N := 108) (by decide) (by decide)) rfl (vp_in_nI (n := j) (by omega) (by decide)) (nI_clamp (n := j) (by omega)) dX8_undo_52 ?_
      refine gv_eqG (mk_row (N := 108) (by decide) (by decide)) ?_
      refine g_iinc (k := 1) (v := (nI (j + 1))) (lv' := [(1, .int (nI (j + 1))), (0, .ref (ad 120))]) C dX8_undo_53 rfl (nI_1 (j)) (by decide) rfl ?_
      refine g_goto (tgt := 27) C dX8_undo_56 (by decide) ?_
      refine gv_lv (lv' := [(0, .ref (ad 120)), (1, .int (nI (j + 1)))]) [1, 0] rfl ?_
      exact ih (j + 1) (st ω 121 j (ω 123 (108 * ((ω 120 4).toNatClampNeg) + j))) h3 (by omega) (by omega) _ _ (e1.trans (congrArg (fun z : Int32 × Mem => some (Value.int z.1)) ((if_neg h1n).trans rfl))) (e2.trans (congrArg (fun z : Int32 × Mem => mk X ad z.2) ((if_neg h1n).trans rfl)))
def f_X8_undo  (ω : Mem) : Int32 × Mem := (if ((st ω 120 0 0) 120 4) = 0 then ((-5), (st ω 120 0 0)) else (f_X8_undo_27 109 0 (st (st ω 120 0 0) 120 4 (((st ω 120 0 0) 120 4) - 1))))
set_option maxRecDepth 100000 in
set_option maxHeartbeats 4000000 in
theorem c_X8_undo {l_ : Launch} {sa : Nat → Nat} {D : va_G} {X : Nat → ClassId} {ad : Nat → Nat}  (ω : Mem) (hmi : MIn 10 ω) : CT l_ yX8_undo wsX8_undo rm_X8_undo sa D (tyX X) 128 ad (mk X ad ω) [.ref (ad 120)] (some (.int (f_X8_undo ω).1) : Option Value) (mk X ad (f_X8_undo ω).2) := by
  refine ct_of [(0, .ref (ad 120))] (by decide +kernel) rfl rfl (Nat.le_of_ble_eq_true rfl) rfl ?_
  intro p_ e_ s_ m_ args_ below_ meth_ c_ C hret hlk hin
  have e1 : (some (.int (f_X8_undo ω).1) : Option Value) = (some (.int (f_X8_undo ω).1) : Option Value) := rfl
  have e2 : mk X ad (f_X8_undo ω).2 = mk X ad (f_X8_undo ω).2 := rfl
  have iX8 : ∀ w ∈ u_ws RX8 TX8 14, w ∈ wsX8_undo := by decide +kernel
  have L31 : Cond.fieldLink RX8 31 (TX8 0).1 (TX8 0).2.1 (TX8 0).2.2.1 ∈ wsX8_undo := by decide +kernel
  have L39 : Cond.fieldLink RX8 39 (TX8 4).1 (TX8 4).2.1 (TX8 4).2.2.1 ∈ wsX8_undo := by decide +kernel
  refine g_aload_n C dX8_undo_0 rfl 0 rfl ?_
  refine g_iconst (v := 0) C dX8_undo_1 (by decide) ?_
  refine g_put C iX8 tyX8 tyX8_ok nmX8 (by decide) (mk_11 (by decide)) rfl 0 (by decide) L31 rfl rfl rfl (Nat.le_of_ble_eq_true rfl) dX8_undo_2 ?_
  refine gv_eqG (mkp_11_0 (by decide)) ?_
  refine g_aload_n C dX8_undo_5 rfl 0 rfl ?_
  refine g_get (v := .int ((st ω 120 0 0) 120 4)) C iX8 (by decide) (mk_11 (by decide)) rfl 4 (by decide) L39 rfl dX8_undo_6 ?_
  refine g_if_ne (tgt := 15) C dX8_undo_9 (by decide) (fun h1 => ?_) (fun h1 => ?_)
  · refine g_aload_n C dX8_undo_15 rfl 0 rfl ?_
    refine g_dup C dX8_undo_16 rfl ?_
    refine g_get (v := .int ((st ω 120 0 0) 120 4)) C iX8 (by decide) (mk_11 (by decide)) rfl 4 (by decide) L39 rfl dX8_undo_17 ?_
    refine g_iconst (v := 1) C dX8_undo_20 (by decide) ?_
    refine g_isub (v := (((st ω 120 0 0) 120 4) - 1)) C dX8_undo_21 rfl ?_
    refine g_put C iX8 tyX8 tyX8_ok nmX8 (by decide) (mk_11 (by decide)) rfl 4 (by decide) L39 rfl rfl rfl (Nat.le_of_ble_eq_true rfl) dX8_undo_22 ?_
    refine gv_eqG (mkp_11_4 (by decide)) ?_
    refine g_iconst (v := 0) C dX8_undo_25 (by decide) ?_
    refine g_istore_n (lv' := [(1, .int 0), (0, .ref (ad 120))]) C dX8_undo_26 rfl (by decide) rfl ?_
    refine gv_lv (lv' := [(0, .ref (ad 120)), (1, .int 0)]) [1, 0] rfl ?_
    exact k_X8_undo_27 (109)   C hret hlk 0 (st (st ω 120 0 0) 120 4 (((st ω 120 0 0) 120 4) - 1)) (rg_pred (n := 3) hmi.2.2 (by decide) h1) (by omega) (by omega) _ _ (e1.trans (congrArg (fun z : Int32 × Mem => some (Value.int z.1)) ((if_neg h1).trans rfl))) (e2.trans (congrArg (fun z : Int32 × Mem => mk X ad z.2) ((if_neg h1).trans rfl)))
  · refine g_bipush (v := (-5)) C dX8_undo_12 (by decide) ?_
    exact g_iret C hret hlk (e1.trans (pr1 (v := (-5)) (w := (st ω 120 0 0)) ((if_pos h1).trans rfl))) (e2.trans (pr2 (v := (-5)) (w := (st ω 120 0 0)) ((if_pos h1).trans rfl))) dX8_undo_14
abbrev rm_X8_keep : Room := { frames := 0, cells := 0, slots := 0, locals := 0 }
theorem md_X8_keep : yX8_keep.cls = RX8 ∧ yX8_keep.cls ≠ "java/lang/invoke/MethodHandle" ∧ yX8_keep.cls ≠ "java/lang/invoke/VarHandle" ∧ (parseMethodDescriptor yX8_keep.desc).map (fun d => d.parameters.length) = some 0 := by decide +kernel
def f_X8_keep_7 : Nat → Nat → Mem → Int32 × Mem
  | 0, _, ω => (0, ω)
  | fu + 1, j, ω => (if 108 ≤ j then (((st ω 120 6 1) 121 4), (st ω 120 6 1)) else (f_X8_keep_7 fu (j + 1) (st ω 124 j (ω 121 j))))
set_option maxRecDepth 100000 in
set_option maxHeartbeats 4000000 in
theorem k_X8_keep_7 {l_ : Launch} {p_ : Program} {e_ : Env} {s_ : State} {m_ : MethodId} {args_ : Array Value} {below_ : List Frame} {meth_ : Method} {c_ : Code} {sa : Nat → Nat} {D : va_G} {X : Nat → ClassId} {ad : Nat → Nat} {G0 : Nat → va_E} (fu : Nat)  (C : GC p_ rm_X8_keep s_ m_ args_ meth_ c_ cX8_keep 2 wsX8_keep RX8 sa D (tyX X) (va_A (gw 128 ad G0) s_.heap.size)) (hret : meth_.sig.returnType = (some .int)) (hlk : meth_.locks = false) : ∀ (j : Nat) (ω : Mem) (hj : j ≤ 108) (hfuel : 108 < j + fu) (rv : Option Value) (G2 : Nat → va_E) (e1 : rv = some (.int (f_X8_keep_7 fu j ω).1)) (e2 : G2 = mk X ad (f_X8_keep_7 fu j ω).2), GV p_ l_ e_ rm_X8_keep s_ m_ args_ below_ meth_ c_ 0 0 (CQ below_ args_ s_ D 128 ad G0 rv G2) D (va_A (gw 128 ad G0) s_.heap.size) 2 128 ad (mk X ad ω) [(0, .ref (ad 120)), (1, .int (nI (j)))] 7 [] := by
  have iX8 : ∀ w ∈ u_ws RX8 TX8 14, w ∈ wsX8_keep := by decide +kernel
  have L149 : Cond.fieldLink RX8 149 (TX8 6).1 (TX8 6).2.1 (TX8 6).2.2.1 ∈ wsX8_keep := by decide +kernel
  have L19 : Cond.fieldLink RX8 19 (TX8 5).1 (TX8 5).2.1 (TX8 5).2.2.1 ∈ wsX8_keep := by decide +kernel
  have L7 : Cond.fieldLink RX8 7 (TX8 1).1 (TX8 1).2.1 (TX8 1).2.2.1 ∈ wsX8_keep := by decide +kernel
  induction fu with
  | zero =>
    intro j ω hj hfuel rv G2 e1 e2
    exact absurd hfuel (by omega)
  | succ fu ih =>
    intro j ω hj hfuel rv G2 e1 e2
    refine g_iload_n C dX8_keep_7 rfl 1 rfl ?_
    refine g_bipush (v := 108) C dX8_keep_8 (by decide) ?_
    refine g_icmp_ge (tgt := 31) C dX8_keep_10 (by decide) (fun h1 => ?_) (fun h1 => ?_)
    · have h1n := (nI_leI (a := 108) (b := j) (by omega) (by omega)).mp h1
      refine g_aload_n C dX8_keep_31 rfl 0 rfl ?_
      refine g_iconst (v := 1) C dX8_keep_32 (by decide) ?_
      refine g_put C iX8 tyX8 tyX8_ok nmX8 (by decide) (mk_11 (by decide)) rfl 6 (by decide) L149 rfl (nar_b (by decide)).1 (nar_b (by decide)).2 (Nat.le_of_ble_eq_true rfl) dX8_keep_33 ?_
      refine gv_eqG (mkp_11_6 (by decide) (by decide)) ?_
      refine g_aload_n C dX8_keep_36 rfl 0 rfl ?_
      refine g_get (v := .ref (ad 121)) C iX8 (by decide) (mk_11 (by decide)) rfl 1 (by decide) L7 rfl dX8_keep_37 ?_
      refine g_iconst (v := 4) C dX8_keep_40 (by decide) ?_
      refine g_iald (k := 4) C 0 (by decide) (mk_12n (N := 108) (by decide) (by decide)) rfl (by unfold vp_in; decide) rfl dX8_keep_41 ?_
      exact g_iret C hret hlk (e1.trans (pr1 (v := ((st ω 120 6 1) 121 4)) (w := (st ω 120 6 1)) ((if_pos h1n).trans rfl))) (e2.trans (pr2 (v := ((st ω 120 6 1) 121 4)) (w := (st ω 120 6 1)) ((if_pos h1n).trans rfl))) dX8_keep_42
    · have h1n := (not_congr (nI_leI (a := 108) (b := j) (by omega) (by omega))).mp h1
      refine g_aload_n C dX8_keep_13 rfl 0 rfl ?_
      refine g_get (v := .ref (ad 124)) C iX8 (by decide) (mk_11 (by decide)) rfl 5 (by decide) L19 rfl dX8_keep_14 ?_
      refine g_iload_n C dX8_keep_17 rfl 1 rfl ?_
      refine g_aload_n C dX8_keep_18 rfl 0 rfl ?_
      refine g_get (v := .ref (ad 121)) C iX8 (by decide) (mk_11 (by decide)) rfl 1 (by decide) L7 rfl dX8_keep_19 ?_
      refine g_iload_n C dX8_keep_22 rfl 1 rfl ?_
      refine g_iald (k := j) C 0 (by decide) (mk_12n (N := 108) (by decide) (by decide)) rfl (vp_in_nI (n := j) (by omega) (by decide)) (nI_clamp (n := j) (by omega)) dX8_keep_23 ?_
      refine g_iast (k := j) C 0 (by decide) (mk_12n (N := 108) (by decide) (by decide)) rfl (vp_in_nI (n := j) (by omega) (by decide)) (nI_clamp (n := j) (by omega)) dX8_keep_24 ?_
      refine gv_eqG (mk_row (N := 108) (by decide) (by decide)) ?_
      refine g_iinc (k := 1) (v := (nI (j + 1))) (lv' := [(1, .int (nI (j + 1))), (0, .ref (ad 120))]) C dX8_keep_25 rfl (nI_1 (j)) (by decide) rfl ?_
      refine g_goto (tgt := 7) C dX8_keep_28 (by decide) ?_
      refine gv_lv (lv' := [(0, .ref (ad 120)), (1, .int (nI (j + 1)))]) [1, 0] rfl ?_
      exact ih (j + 1) (st ω 124 j (ω 121 j)) (by omega) (by omega) _ _ (e1.trans (congrArg (fun z : Int32 × Mem => some (Value.int z.1)) ((if_neg h1n).trans rfl))) (e2.trans (congrArg (fun z : Int32 × Mem => mk X ad z.2) ((if_neg h1n).trans rfl)))
def f_X8_keep  (ω : Mem) : Int32 × Mem := (f_X8_keep_7 109 0 (st ω 120 0 0))
set_option maxRecDepth 100000 in
set_option maxHeartbeats 4000000 in
theorem c_X8_keep {l_ : Launch} {sa : Nat → Nat} {D : va_G} {X : Nat → ClassId} {ad : Nat → Nat}  (ω : Mem)  : CT l_ yX8_keep wsX8_keep rm_X8_keep sa D (tyX X) 128 ad (mk X ad ω) [.ref (ad 120)] (some (.int (f_X8_keep ω).1) : Option Value) (mk X ad (f_X8_keep ω).2) := by
  refine ct_of [(0, .ref (ad 120))] (by decide +kernel) rfl rfl (Nat.le_of_ble_eq_true rfl) rfl ?_
  intro p_ e_ s_ m_ args_ below_ meth_ c_ C hret hlk hin
  have e1 : (some (.int (f_X8_keep ω).1) : Option Value) = (some (.int (f_X8_keep ω).1) : Option Value) := rfl
  have e2 : mk X ad (f_X8_keep ω).2 = mk X ad (f_X8_keep ω).2 := rfl
  have iX8 : ∀ w ∈ u_ws RX8 TX8 14, w ∈ wsX8_keep := by decide +kernel
  have L31 : Cond.fieldLink RX8 31 (TX8 0).1 (TX8 0).2.1 (TX8 0).2.2.1 ∈ wsX8_keep := by decide +kernel
  refine g_aload_n C dX8_keep_0 rfl 0 rfl ?_
  refine g_iconst (v := 0) C dX8_keep_1 (by decide) ?_
  refine g_put C iX8 tyX8 tyX8_ok nmX8 (by decide) (mk_11 (by decide)) rfl 0 (by decide) L31 rfl rfl rfl (Nat.le_of_ble_eq_true rfl) dX8_keep_2 ?_
  refine gv_eqG (mkp_11_0 (by decide)) ?_
  refine g_iconst (v := 0) C dX8_keep_5 (by decide) ?_
  refine g_istore_n (lv' := [(1, .int 0), (0, .ref (ad 120))]) C dX8_keep_6 rfl (by decide) rfl ?_
  refine gv_lv (lv' := [(0, .ref (ad 120)), (1, .int 0)]) [1, 0] rfl ?_
  exact k_X8_keep_7 (109)   C hret hlk 0 (st ω 120 0 0) (by omega) (by omega) _ _ (e1.trans (congrArg (fun z : Int32 × Mem => some (Value.int z.1)) rfl)) (e2.trans (congrArg (fun z : Int32 × Mem => mk X ad z.2) rfl))
abbrev rm_X8_restore : Room := { frames := 1, cells := 0, slots := 0, locals := 21 }
theorem md_X8_restore : yX8_restore.cls = RX8 ∧ yX8_restore.cls ≠ "java/lang/invoke/MethodHandle" ∧ yX8_restore.cls ≠ "java/lang/invoke/VarHandle" ∧ (parseMethodDescriptor yX8_restore.desc).map (fun d => d.parameters.length) = some 0 := by decide +kernel
def f_X8_restore_21 : Nat → Nat → Mem → Int32 × Mem
  | 0, _, ω => (0, ω)
  | fu + 1, j, ω => (if 108 ≤ j then ((ω 121 4), ω) else (f_X8_restore_21 fu (j + 1) (st ω 121 j (ω 124 j))))
set_option maxRecDepth 100000 in
set_option maxHeartbeats 4000000 in
theorem k_X8_restore_21 {l_ : Launch} {p_ : Program} {e_ : Env} {s_ : State} {m_ : MethodId} {args_ : Array Value} {below_ : List Frame} {meth_ : Method} {c_ : Code} {sa : Nat → Nat} {D : va_G} {X : Nat → ClassId} {ad : Nat → Nat} {G0 : Nat → va_E} (fu : Nat)  (C : GC p_ rm_X8_restore s_ m_ args_ meth_ c_ cX8_restore 2 wsX8_restore RX8 sa D (tyX X) (va_A (gw 128 ad G0) s_.heap.size)) (hret : meth_.sig.returnType = (some .int)) (hlk : meth_.locks = false) : ∀ (j : Nat) (ω : Mem) (hj : j ≤ 108) (hfuel : 108 < j + fu) (rv : Option Value) (G2 : Nat → va_E) (e1 : rv = some (.int (f_X8_restore_21 fu j ω).1)) (e2 : G2 = mk X ad (f_X8_restore_21 fu j ω).2), GV p_ l_ e_ rm_X8_restore s_ m_ args_ below_ meth_ c_ 0 0 (CQ below_ args_ s_ D 128 ad G0 rv G2) D (va_A (gw 128 ad G0) s_.heap.size) 2 128 ad (mk X ad ω) [(0, .ref (ad 120)), (1, .int (nI (j)))] 21 [] := by
  have iX8 : ∀ w ∈ u_ws RX8 TX8 14, w ∈ wsX8_restore := by decide +kernel
  have L19 : Cond.fieldLink RX8 19 (TX8 5).1 (TX8 5).2.1 (TX8 5).2.2.1 ∈ wsX8_restore := by decide +kernel
  have L7 : Cond.fieldLink RX8 7 (TX8 1).1 (TX8 1).2.1 (TX8 1).2.2.1 ∈ wsX8_restore := by decide +kernel
  induction fu with
  | zero =>
    intro j ω hj hfuel rv G2 e1 e2
    exact absurd hfuel (by omega)
  | succ fu ih =>
    intro j ω hj hfuel rv G2 e1 e2
    refine g_iload_n C dX8_restore_21 rfl 1 rfl ?_
    refine g_bipush (v := 108) C dX8_restore_22 (by decide) ?_
    refine g_icmp_ge (tgt := 45) C dX8_restore_24 (by decide) (fun h1 => ?_) (fun h1 => ?_)
    · have h1n := (nI_leI (a := 108) (b := j) (by omega) (by omega)).mp h1
      refine g_aload_n C dX8_restore_45 rfl 0 rfl ?_
      refine g_get (v := .ref (ad 121)) C iX8 (by decide) (mk_11 (by decide)) rfl 1 (by decide) L7 rfl dX8_restore_46 ?_
      refine g_iconst (v := 4) C dX8_restore_49 (by decide) ?_
      refine g_iald (k := 4) C 0 (by decide) (mk_12n (N := 108) (by decide) (by decide)) rfl (by unfold vp_in; decide) rfl dX8_restore_50 ?_
      exact g_iret C hret hlk (e1.trans (pr1 (v := (ω 121 4)) (w := ω) ((if_pos h1n).trans rfl))) (e2.trans (pr2 (v := (ω 121 4)) (w := ω) ((if_pos h1n).trans rfl))) dX8_restore_51
    · have h1n := (not_congr (nI_leI (a := 108) (b := j) (by omega) (by omega))).mp h1
      refine g_aload_n C dX8_restore_27 rfl 0 rfl ?_
      refine g_get (v := .ref (ad 121)) C iX8 (by decide) (mk_11 (by decide)) rfl 1 (by decide) L7 rfl dX8_restore_28 ?_
      refine g_iload_n C dX8_restore_31 rfl 1 rfl ?_
      refine g_aload_n C dX8_restore_32 rfl 0 rfl ?_
      refine g_get (v := .ref (ad 124)) C iX8 (by decide) (mk_11 (by decide)) rfl 5 (by decide) L19 rfl dX8_restore_33 ?_
      refine g_iload_n C dX8_restore_36 rfl 1 rfl ?_
      refine g_iald (k := j) C 0 (by decide) (mk_12n (N := 108) (by decide) (by decide)) rfl (vp_in_nI (n := j) (by omega) (by decide)) (nI_clamp (n := j) (by omega)) dX8_restore_37 ?_
      refine g_iast (k := j) C 0 (by decide) (mk_12n (N := 108) (by decide) (by decide)) rfl (vp_in_nI (n := j) (by omega) (by decide)) (nI_clamp (n := j) (by omega)) dX8_restore_38 ?_
      refine gv_eqG (mk_row (N := 108) (by decide) (by decide)) ?_
      refine g_iinc (k := 1) (v := (nI (j + 1))) (lv' := [(1, .int (nI (j + 1))), (0, .ref (ad 120))]) C dX8_restore_39 rfl (nI_1 (j)) (by decide) rfl ?_
      refine g_goto (tgt := 21) C dX8_restore_42 (by decide) ?_
      refine gv_lv (lv' := [(0, .ref (ad 120)), (1, .int (nI (j + 1)))]) [1, 0] rfl ?_
      exact ih (j + 1) (st ω 121 j (ω 124 j)) (by omega) (by omega) _ _ (e1.trans (congrArg (fun z : Int32 × Mem => some (Value.int z.1)) ((if_neg h1n).trans rfl))) (e2.trans (congrArg (fun z : Int32 × Mem => mk X ad z.2) ((if_neg h1n).trans rfl)))
def f_X8_restore_5  (ω : Mem) : Int32 × Mem := (if (bb (ω 120 6)) = 0 then ((-5), ω) else (f_X8_restore_21 109 0 (f_X8_records ω)))
set_option maxRecDepth 100000 in
set_option maxHeartbeats 4000000 in
theorem k_X8_restore_5 {l_ : Launch} {p_ : Program} {e_ : Env} {s_ : State} {m_ : MethodId} {args_ : Array Value} {below_ : List Frame} {meth_ : Method} {c_ : Code} {sa : Nat → Nat} {D : va_G} {X : Nat → ClassId} {ad : Nat → Nat} {G0 : Nat → va_E}  (C : GC p_ rm_X8_restore s_ m_ args_ meth_ c_ cX8_restore 2 wsX8_restore RX8 sa D (tyX X) (va_A (gw 128 ad G0) s_.heap.size)) (hret : meth_.sig.returnType = (some .int)) (hlk : meth_.locks = false) : ∀  (ω : Mem) (hmi : MIn 10 ω) (rv : Option Value) (G2 : Nat → va_E) (e1 : rv = some (.int (f_X8_restore_5 ω).1)) (e2 : G2 = mk X ad (f_X8_restore_5 ω).2), GV p_ l_ e_ rm_X8_restore s_ m_ args_ below_ meth_ c_ 0 0 (CQ below_ args_ s_ D 128 ad G0 rv G2) D (va_A (gw 128 ad G0) s_.heap.size) 2 128 ad (mk X ad ω) [(0, .ref (ad 120))] 5 [] := by
  have iX8 : ∀ w ∈ u_ws RX8 TX8 14, w ∈ wsX8_restore := by decide +kernel
  have L149 : Cond.fieldLink RX8 149 (TX8 6).1 (TX8 6).2.1 (TX8 6).2.2.1 ∈ wsX8_restore := by decide +kernel
  intro ω hmi rv G2 e1 e2
  refine g_aload_n C dX8_restore_5 rfl 0 rfl ?_
  refine g_get (v := .int (bb (ω 120 6))) C iX8 (by decide) (mk_11 (by decide)) rfl 6 (by decide) L149 rfl dX8_restore_6 ?_
  refine g_if_ne (tgt := 15) C dX8_restore_9 (by decide) (fun h1 => ?_) (fun h1 => ?_)
  · refine g_aload_n C dX8_restore_15 rfl 0 rfl ?_
    refine g_callV (rest := []) (st1 := []) C (c_X8_records ω hmi) (cwV 0 C.hts gX8_restore_X8_records rfl rfl rfl md_X8_records ⟨Nat.le_of_ble_eq_true rfl, Nat.le_of_ble_eq_true rfl⟩) (by decide) (mk_11 (by decide)) rfl rfl rfl rfl rfl (Nat.le_of_ble_eq_true rfl) dX8_restore_16 (Nat.zero_le _) (Nat.zero_le _) ?_
    refine g_iconst (v := 0) C dX8_restore_19 (by decide) ?_
    refine g_istore_n (lv' := [(1, .int 0), (0, .ref (ad 120))]) C dX8_restore_20 rfl (by decide) rfl ?_
    refine gv_lv (lv' := [(0, .ref (ad 120)), (1, .int 0)]) [1, 0] rfl ?_
    exact k_X8_restore_21 (109)   C hret hlk 0 (f_X8_records ω) (by omega) (by omega) _ _ (e1.trans (congrArg (fun z : Int32 × Mem => some (Value.int z.1)) ((if_neg h1).trans rfl))) (e2.trans (congrArg (fun z : Int32 × Mem => mk X ad z.2) ((if_neg h1).trans rfl)))
  · refine g_bipush (v := (-5)) C dX8_restore_12 (by decide) ?_
    exact g_iret C hret hlk (e1.trans (pr1 (v := (-5)) (w := ω) ((if_pos h1).trans rfl))) (e2.trans (pr2 (v := (-5)) (w := ω) ((if_pos h1).trans rfl))) dX8_restore_14
def f_X8_restore  (ω : Mem) : Int32 × Mem := (f_X8_restore_5 (st ω 120 0 0))
set_option maxRecDepth 100000 in
set_option maxHeartbeats 4000000 in
theorem c_X8_restore {l_ : Launch} {sa : Nat → Nat} {D : va_G} {X : Nat → ClassId} {ad : Nat → Nat}  (ω : Mem) (hmi : MIn 10 ω) : CT l_ yX8_restore wsX8_restore rm_X8_restore sa D (tyX X) 128 ad (mk X ad ω) [.ref (ad 120)] (some (.int (f_X8_restore ω).1) : Option Value) (mk X ad (f_X8_restore ω).2) := by
  refine ct_of [(0, .ref (ad 120))] (by decide +kernel) rfl rfl (Nat.le_of_ble_eq_true rfl) rfl ?_
  intro p_ e_ s_ m_ args_ below_ meth_ c_ C hret hlk hin
  have e1 : (some (.int (f_X8_restore ω).1) : Option Value) = (some (.int (f_X8_restore ω).1) : Option Value) := rfl
  have e2 : mk X ad (f_X8_restore ω).2 = mk X ad (f_X8_restore ω).2 := rfl
  have iX8 : ∀ w ∈ u_ws RX8 TX8 14, w ∈ wsX8_restore := by decide +kernel
  have L31 : Cond.fieldLink RX8 31 (TX8 0).1 (TX8 0).2.1 (TX8 0).2.2.1 ∈ wsX8_restore := by decide +kernel
  refine g_aload_n C dX8_restore_0 rfl 0 rfl ?_
  refine g_iconst (v := 0) C dX8_restore_1 (by decide) ?_
  refine g_put C iX8 tyX8 tyX8_ok nmX8 (by decide) (mk_11 (by decide)) rfl 0 (by decide) L31 rfl rfl rfl (Nat.le_of_ble_eq_true rfl) dX8_restore_2 ?_
  refine gv_eqG (mkp_11_0 (by decide)) ?_
  exact k_X8_restore_5   C hret hlk  (st ω 120 0 0) (MIn_f hmi (by decide)) _ _ (e1.trans (congrArg (fun z : Int32 × Mem => some (Value.int z.1)) rfl)) (e2.trans (congrArg (fun z : Int32 × Mem => mk X ad z.2) rfl))
abbrev rm_X8_burner : Room := { frames := 3, cells := 0, slots := 0, locals := 65 }
theorem md_X8_burner : yX8_burner.cls = RX8 ∧ yX8_burner.cls ≠ "java/lang/invoke/MethodHandle" ∧ yX8_burner.cls ≠ "java/lang/invoke/VarHandle" ∧ (parseMethodDescriptor yX8_burner.desc).map (fun d => d.parameters.length) = some 2 := by decide +kernel
def f_X8_burner_5 (k : Nat) (w : Int32) (ω : Mem) : Int32 × Mem := (if (f_X8_isBurner (nI (k)) ω) = 0 then ((-1), ω) else (if w = 6 then (if (f_X8_isOpen k ω) = 0 then (0, ω) else (1, ω)) else (if w = 7 then ((f_X8_get k 6 ω), ω) else (if w = 8 then ((f_X8_get k 7 ω), ω) else (if w = 9 then ((f_X8_get k 8 ω), ω) else (if w = 10 then ((f_X8_get k 9 ω), ω) else (if w = 11 then ((f_X8_strength k ω), ω) else (if (f_X8_in w 0 5 ω) = 0 then ((-2), ω) else ((f_X8_get k w.toNatClampNeg ω), ω)))))))))
set_option maxRecDepth 100000 in
set_option maxHeartbeats 4000000 in
theorem k_X8_burner_5 {l_ : Launch} {p_ : Program} {e_ : Env} {s_ : State} {m_ : MethodId} {args_ : Array Value} {below_ : List Frame} {meth_ : Method} {c_ : Code} {sa : Nat → Nat} {D : va_G} {X : Nat → ClassId} {ad : Nat → Nat} {G0 : Nat → va_E} (k : Nat) (w : Int32) (hk : k < 4) (C : GC p_ rm_X8_burner s_ m_ args_ meth_ c_ cX8_burner 3 wsX8_burner RX8 sa D (tyX X) (va_A (gw 128 ad G0) s_.heap.size)) (hret : meth_.sig.returnType = (some .int)) (hlk : meth_.locks = false) : ∀  (ω : Mem)  (rv : Option Value) (G2 : Nat → va_E) (e1 : rv = some (.int (f_X8_burner_5 k w ω).1)) (e2 : G2 = mk X ad (f_X8_burner_5 k w ω).2), GV p_ l_ e_ rm_X8_burner s_ m_ args_ below_ meth_ c_ 0 0 (CQ below_ args_ s_ D 128 ad G0 rv G2) D (va_A (gw 128 ad G0) s_.heap.size) 3 128 ad (mk X ad ω) [(0, .ref (ad 120)), (1, .int (nI (k))), (2, .int w)] 5 [] := by
  intro ω rv G2 e1 e2
  refine g_iload_n C dX8_burner_5 rfl 1 rfl ?_
  refine g_callS (rest := []) (st1 := [.int (f_X8_isBurner (nI (k)) ω)]) C (c_X8_isBurner (nI (k)) ω) (va_cwS 1 C.hts gX8_burner_X8_isBurner rfl rfl rfl md_X8_isBurner.2 ⟨Nat.le_of_ble_eq_true rfl, Nat.le_of_ble_eq_true rfl⟩) rfl rfl rfl (Nat.le_of_ble_eq_true rfl) dX8_burner_6 (Nat.zero_le _) (Nat.zero_le _) ?_
  refine g_if_ne (tgt := 14) C dX8_burner_9 (by decide) (fun h1 => ?_) (fun h1 => ?_)
  · refine g_iload_n C dX8_burner_14 rfl 2 rfl ?_
    by_cases h2 : w = 6
    · refine g_tabIn (tgt := 52) C dX8_burner_15 (by rw [h2]; decide) (by rw [h2]; decide) (by rw [h2]; rfl) (by decide) ?_
      refine g_aload_n C dX8_burner_52 rfl 0 rfl ?_
      refine g_iload_n C dX8_burner_53 rfl 1 rfl ?_
      refine g_callV (rest := []) (st1 := [.int (f_X8_isOpen k ω)]) C (c_X8_isOpen k (by omega) ω) (cwV 1 C.hts gX8_burner_X8_isOpen rfl rfl rfl md_X8_isOpen ⟨Nat.le_of_ble_eq_true rfl, Nat.le_of_ble_eq_true rfl⟩) (by decide) (mk_11 (by decide)) rfl rfl rfl rfl rfl (Nat.le_of_ble_eq_true rfl) dX8_burner_54 (Nat.zero_le _) (Nat.zero_le _) ?_
      refine g_if_eq (tgt := 64) C dX8_burner_57 (by decide) (fun h3 => ?_) (fun h3 => ?_)
      · refine g_iconst (v := 0) C dX8_burner_64 (by decide) ?_
        exact g_iret C hret hlk (e1.trans (pr1 (v := 0) (w := ω) ((if_neg h1).trans ((if_pos h2).trans ((if_pos h3).trans rfl))))) (e2.trans (pr2 (v := 0) (w := ω) ((if_neg h1).trans ((if_pos h2).trans ((if_pos h3).trans rfl))))) dX8_burner_65
      · refine g_iconst (v := 1) C dX8_burner_60 (by decide) ?_
        refine g_goto (tgt := 65) C dX8_burner_61 (by decide) ?_
        exact g_iret C hret hlk (e1.trans (pr1 (v := 1) (w := ω) ((if_neg h1).trans ((if_pos h2).trans ((if_neg h3).trans rfl))))) (e2.trans (pr2 (v := 1) (w := ω) ((if_neg h1).trans ((if_pos h2).trans ((if_neg h3).trans rfl))))) dX8_burner_65
    · by_cases h4 : w = 7
      · refine g_tabIn (tgt := 66) C dX8_burner_15 (by rw [h4]; decide) (by rw [h4]; decide) (by rw [h4]; rfl) (by decide) ?_
        refine g_aload_n C dX8_burner_66 rfl 0 rfl ?_
        refine g_iload_n C dX8_burner_67 rfl 1 rfl ?_
        refine g_bipush (v := 6) C dX8_burner_68 (by decide) ?_
        refine g_callV (rest := []) (st1 := [.int (f_X8_get k 6 ω)]) C (c_X8_get k 6 (by omega) (by omega) ω) (cwV 2 C.hts gX8_burner_X8_get rfl rfl rfl md_X8_get ⟨Nat.le_of_ble_eq_true rfl, Nat.le_of_ble_eq_true rfl⟩) (by decide) (mk_11 (by decide)) rfl rfl rfl rfl rfl (Nat.le_of_ble_eq_true rfl) dX8_burner_70 (Nat.zero_le _) (Nat.zero_le _) ?_
        exact g_iret C hret hlk (e1.trans (pr1 (v := (f_X8_get k 6 ω)) (w := ω) ((if_neg h1).trans ((if_neg h2).trans ((if_pos h4).trans rfl))))) (e2.trans (pr2 (v := (f_X8_get k 6 ω)) (w := ω) ((if_neg h1).trans ((if_neg h2).trans ((if_pos h4).trans rfl))))) dX8_burner_73
      · by_cases h5 : w = 8
        · refine g_tabIn (tgt := 74) C dX8_burner_15 (by rw [h5]; decide) (by rw [h5]; decide) (by rw [h5]; rfl) (by decide) ?_
          refine g_aload_n C dX8_burner_74 rfl 0 rfl ?_
          refine g_iload_n C dX8_burner_75 rfl 1 rfl ?_
          refine g_bipush (v := 7) C dX8_burner_76 (by decide) ?_
          refine g_callV (rest := []) (st1 := [.int (f_X8_get k 7 ω)]) C (c_X8_get k 7 (by omega) (by omega) ω) (cwV 2 C.hts gX8_burner_X8_get rfl rfl rfl md_X8_get ⟨Nat.le_of_ble_eq_true rfl, Nat.le_of_ble_eq_true rfl⟩) (by decide) (mk_11 (by decide)) rfl rfl rfl rfl rfl (Nat.le_of_ble_eq_true rfl) dX8_burner_78 (Nat.zero_le _) (Nat.zero_le _) ?_
          exact g_iret C hret hlk (e1.trans (pr1 (v := (f_X8_get k 7 ω)) (w := ω) ((if_neg h1).trans ((if_neg h2).trans ((if_neg h4).trans ((if_pos h5).trans rfl)))))) (e2.trans (pr2 (v := (f_X8_get k 7 ω)) (w := ω) ((if_neg h1).trans ((if_neg h2).trans ((if_neg h4).trans ((if_pos h5).trans rfl)))))) dX8_burner_81
        · by_cases h6 : w = 9
          · refine g_tabIn (tgt := 82) C dX8_burner_15 (by rw [h6]; decide) (by rw [h6]; decide) (by rw [h6]; rfl) (by decide) ?_
            refine g_aload_n C dX8_burner_82 rfl 0 rfl ?_
            refine g_iload_n C dX8_burner_83 rfl 1 rfl ?_
            refine g_bipush (v := 8) C dX8_burner_84 (by decide) ?_
            refine g_callV (rest := []) (st1 := [.int (f_X8_get k 8 ω)]) C (c_X8_get k 8 (by omega) (by omega) ω) (cwV 2 C.hts gX8_burner_X8_get rfl rfl rfl md_X8_get ⟨Nat.le_of_ble_eq_true rfl, Nat.le_of_ble_eq_true rfl⟩) (by decide) (mk_11 (by decide)) rfl rfl rfl rfl rfl (Nat.le_of_ble_eq_true rfl) dX8_burner_86 (Nat.zero_le _) (Nat.zero_le _) ?_
            exact g_iret C hret hlk (e1.trans (pr1 (v := (f_X8_get k 8 ω)) (w := ω) ((if_neg h1).trans ((if_neg h2).trans ((if_neg h4).trans ((if_neg h5).trans ((if_pos h6).trans rfl))))))) (e2.trans (pr2 (v := (f_X8_get k 8 ω)) (w := ω) ((if_neg h1).trans ((if_neg h2).trans ((if_neg h4).trans ((if_neg h5).trans ((if_pos h6).trans rfl))))))) dX8_burner_89
          · by_cases h7 : w = 10
            · refine g_tabIn (tgt := 90) C dX8_burner_15 (by rw [h7]; decide) (by rw [h7]; decide) (by rw [h7]; rfl) (by decide) ?_
              refine g_aload_n C dX8_burner_90 rfl 0 rfl ?_
              refine g_iload_n C dX8_burner_91 rfl 1 rfl ?_
              refine g_bipush (v := 9) C dX8_burner_92 (by decide) ?_
              refine g_callV (rest := []) (st1 := [.int (f_X8_get k 9 ω)]) C (c_X8_get k 9 (by omega) (by omega) ω) (cwV 2 C.hts gX8_burner_X8_get rfl rfl rfl md_X8_get ⟨Nat.le_of_ble_eq_true rfl, Nat.le_of_ble_eq_true rfl⟩) (by decide) (mk_11 (by decide)) rfl rfl rfl rfl rfl (Nat.le_of_ble_eq_true rfl) dX8_burner_94 (Nat.zero_le _) (Nat.zero_le _) ?_
              exact g_iret C hret hlk (e1.trans (pr1 (v := (f_X8_get k 9 ω)) (w := ω) ((if_neg h1).trans ((if_neg h2).trans ((if_neg h4).trans ((if_neg h5).trans ((if_neg h6).trans ((if_pos h7).trans rfl)))))))) (e2.trans (pr2 (v := (f_X8_get k 9 ω)) (w := ω) ((if_neg h1).trans ((if_neg h2).trans ((if_neg h4).trans ((if_neg h5).trans ((if_neg h6).trans ((if_pos h7).trans rfl)))))))) dX8_burner_97
            · by_cases h8 : w = 11
              · refine g_tabIn (tgt := 98) C dX8_burner_15 (by rw [h8]; decide) (by rw [h8]; decide) (by rw [h8]; rfl) (by decide) ?_
                refine g_aload_n C dX8_burner_98 rfl 0 rfl ?_
                refine g_iload_n C dX8_burner_99 rfl 1 rfl ?_
                refine g_callV (rest := []) (st1 := [.int (f_X8_strength k ω)]) C (c_X8_strength k (by omega) ω) (cwV 1 C.hts gX8_burner_X8_strength rfl rfl rfl md_X8_strength ⟨Nat.le_of_ble_eq_true rfl, Nat.le_of_ble_eq_true rfl⟩) (by decide) (mk_11 (by decide)) rfl rfl rfl rfl rfl (Nat.le_of_ble_eq_true rfl) dX8_burner_100 (Nat.zero_le _) (Nat.zero_le _) ?_
                exact g_iret C hret hlk (e1.trans (pr1 (v := (f_X8_strength k ω)) (w := ω) ((if_neg h1).trans ((if_neg h2).trans ((if_neg h4).trans ((if_neg h5).trans ((if_neg h6).trans ((if_neg h7).trans ((if_pos h8).trans rfl))))))))) (e2.trans (pr2 (v := (f_X8_strength k ω)) (w := ω) ((if_neg h1).trans ((if_neg h2).trans ((if_neg h4).trans ((if_neg h5).trans ((if_neg h6).trans ((if_neg h7).trans ((if_pos h8).trans rfl))))))))) dX8_burner_103
              · refine g_tabOut (tgt := 104) C dX8_burner_15 (tab_out 6 11 (fun k hk hz => by
                  rcases (show k = 0 ∨ k = 1 ∨ k = 2 ∨ k = 3 ∨ k = 4 ∨ k = 5 by omega) with rfl | rfl | rfl | rfl | rfl | rfl
                  · exact h2 (Int32.toInt_inj.mp (hz.trans (by decide)))
                  · exact h4 (Int32.toInt_inj.mp (hz.trans (by decide)))
                  · exact h5 (Int32.toInt_inj.mp (hz.trans (by decide)))
                  · exact h6 (Int32.toInt_inj.mp (hz.trans (by decide)))
                  · exact h7 (Int32.toInt_inj.mp (hz.trans (by decide)))
                  · exact h8 (Int32.toInt_inj.mp (hz.trans (by decide)))
                  )) (by decide) ?_
                refine g_iload_n C dX8_burner_104 rfl 2 rfl ?_
                refine g_iconst (v := 0) C dX8_burner_105 (by decide) ?_
                refine g_iconst (v := 5) C dX8_burner_106 (by decide) ?_
                refine g_callS (rest := []) (st1 := [.int (f_X8_in w 0 5 ω)]) C (c_X8_in w 0 5 ω) (va_cwS 3 C.hts gX8_burner_X8_in rfl rfl rfl md_X8_in.2 ⟨Nat.le_of_ble_eq_true rfl, Nat.le_of_ble_eq_true rfl⟩) rfl rfl rfl (Nat.le_of_ble_eq_true rfl) dX8_burner_107 (Nat.zero_le _) (Nat.zero_le _) ?_
                refine g_if_eq (tgt := 122) C dX8_burner_110 (by decide) (fun h9 => ?_) (fun h9 => ?_)
                · refine g_bipush (v := (-2)) C dX8_burner_122 (by decide) ?_
                  exact g_iret C hret hlk (e1.trans (pr1 (v := (-2)) (w := ω) ((if_neg h1).trans ((if_neg h2).trans ((if_neg h4).trans ((if_neg h5).trans ((if_neg h6).trans ((if_neg h7).trans ((if_neg h8).trans ((if_pos h9).trans rfl)))))))))) (e2.trans (pr2 (v := (-2)) (w := ω) ((if_neg h1).trans ((if_neg h2).trans ((if_neg h4).trans ((if_neg h5).trans ((if_neg h6).trans ((if_neg h7).trans ((if_neg h8).trans ((if_pos h9).trans rfl)))))))))) dX8_burner_124
                · refine g_aload_n C dX8_burner_113 rfl 0 rfl ?_
                  refine g_iload_n C dX8_burner_114 rfl 1 rfl ?_
                  refine g_iload_n C dX8_burner_115 rfl 2 rfl ?_
                  have hz10 : w.toNatClampNeg ≤ _ := (in_rg (n := 5) rfl h9).2
                  refine gv_eqS (st' := [.int (nI (w.toNatClampNeg)), .int (nI (k)), .ref (ad 120)]) (congrArg (fun z : Int32 => ([Value.int z, .int (nI (k)), .ref (ad 120)] : List Value)) (in_rg (n := 5) rfl h9).1) ?_
                  refine g_callV (rest := []) (st1 := [.int (f_X8_get k w.toNatClampNeg ω)]) C (c_X8_get k w.toNatClampNeg (by omega) (by omega) ω) (cwV 2 C.hts gX8_burner_X8_get rfl rfl rfl md_X8_get ⟨Nat.le_of_ble_eq_true rfl, Nat.le_of_ble_eq_true rfl⟩) (by decide) (mk_11 (by decide)) rfl rfl rfl rfl rfl (Nat.le_of_ble_eq_true rfl) dX8_burner_116 (Nat.zero_le _) (Nat.zero_le _) ?_
                  refine g_goto (tgt := 124) C dX8_burner_119 (by decide) ?_
                  exact g_iret C hret hlk (e1.trans (pr1 (v := (f_X8_get k w.toNatClampNeg ω)) (w := ω) ((if_neg h1).trans ((if_neg h2).trans ((if_neg h4).trans ((if_neg h5).trans ((if_neg h6).trans ((if_neg h7).trans ((if_neg h8).trans ((if_neg h9).trans rfl)))))))))) (e2.trans (pr2 (v := (f_X8_get k w.toNatClampNeg ω)) (w := ω) ((if_neg h1).trans ((if_neg h2).trans ((if_neg h4).trans ((if_neg h5).trans ((if_neg h6).trans ((if_neg h7).trans ((if_neg h8).trans ((if_neg h9).trans rfl)))))))))) dX8_burner_124
  · refine g_iconst (v := (-1)) C dX8_burner_12 (by decide) ?_
    exact g_iret C hret hlk (e1.trans (pr1 (v := (-1)) (w := ω) ((if_pos h1).trans rfl))) (e2.trans (pr2 (v := (-1)) (w := ω) ((if_pos h1).trans rfl))) dX8_burner_13
def f_X8_burner (k : Nat) (w : Int32) (ω : Mem) : Int32 × Mem := (f_X8_burner_5 k w (st ω 120 0 0))
set_option maxRecDepth 100000 in
set_option maxHeartbeats 4000000 in
theorem c_X8_burner {l_ : Launch} {sa : Nat → Nat} {D : va_G} {X : Nat → ClassId} {ad : Nat → Nat} (k : Nat) (w : Int32) (hk : k < 4) (ω : Mem)  : CT l_ yX8_burner wsX8_burner rm_X8_burner sa D (tyX X) 128 ad (mk X ad ω) [.ref (ad 120), .int (nI (k)), .int w] (some (.int (f_X8_burner k w ω).1) : Option Value) (mk X ad (f_X8_burner k w ω).2) := by
  refine ct_of [(0, .ref (ad 120)), (1, .int (nI (k))), (2, .int w)] (by decide +kernel) rfl rfl (Nat.le_of_ble_eq_true rfl) rfl ?_
  intro p_ e_ s_ m_ args_ below_ meth_ c_ C hret hlk hin
  have e1 : (some (.int (f_X8_burner k w ω).1) : Option Value) = (some (.int (f_X8_burner k w ω).1) : Option Value) := rfl
  have e2 : mk X ad (f_X8_burner k w ω).2 = mk X ad (f_X8_burner k w ω).2 := rfl
  have iX8 : ∀ w ∈ u_ws RX8 TX8 14, w ∈ wsX8_burner := by decide +kernel
  have L31 : Cond.fieldLink RX8 31 (TX8 0).1 (TX8 0).2.1 (TX8 0).2.2.1 ∈ wsX8_burner := by decide +kernel
  refine g_aload_n C dX8_burner_0 rfl 0 rfl ?_
  refine g_iconst (v := 0) C dX8_burner_1 (by decide) ?_
  refine g_put C iX8 tyX8 tyX8_ok nmX8 (by decide) (mk_11 (by decide)) rfl 0 (by decide) L31 rfl rfl rfl (Nat.le_of_ble_eq_true rfl) dX8_burner_2 ?_
  refine gv_eqG (mkp_11_0 (by decide)) ?_
  exact k_X8_burner_5 k w hk C hret hlk  (st ω 120 0 0)  _ _ (e1.trans (congrArg (fun z : Int32 × Mem => some (Value.int z.1)) rfl)) (e2.trans (congrArg (fun z : Int32 × Mem => mk X ad z.2) rfl))
def f_X8_burnerB (x : Int32) (w : Int32) (ω : Mem) : Int32 × Mem := ((-1), (st ω 120 0 0))
set_option maxRecDepth 100000 in
set_option maxHeartbeats 4000000 in
theorem c_X8_burnerB {l_ : Launch} {sa : Nat → Nat} {D : va_G} {X : Nat → ClassId} {ad : Nat → Nat} (x : Int32) (w : Int32) (hbad : x < 0 ∨ 4 ≤ x) (ω : Mem)  : CT l_ yX8_burner wsX8_burner rm_X8_burner sa D (tyX X) 128 ad (mk X ad ω) [.ref (ad 120), .int x, .int w] (some (.int (f_X8_burnerB x w ω).1) : Option Value) (mk X ad (f_X8_burnerB x w ω).2) := by
  refine ct_of [(0, .ref (ad 120)), (1, .int x), (2, .int w)] (by decide +kernel) rfl rfl (Nat.le_of_ble_eq_true rfl) rfl ?_
  intro p_ e_ s_ m_ args_ below_ meth_ c_ C hret hlk hin
  have e1 : (some (.int (f_X8_burnerB x w ω).1) : Option Value) = (some (.int (f_X8_burnerB x w ω).1) : Option Value) := rfl
  have e2 : mk X ad (f_X8_burnerB x w ω).2 = mk X ad (f_X8_burnerB x w ω).2 := rfl
  have iX8 : ∀ w ∈ u_ws RX8 TX8 14, w ∈ wsX8_burner := by decide +kernel
  have L31 : Cond.fieldLink RX8 31 (TX8 0).1 (TX8 0).2.1 (TX8 0).2.2.1 ∈ wsX8_burner := by decide +kernel
  refine g_aload_n C dX8_burner_0 rfl 0 rfl ?_
  refine g_iconst (v := 0) C dX8_burner_1 (by decide) ?_
  refine g_put C iX8 tyX8 tyX8_ok nmX8 (by decide) (mk_11 (by decide)) rfl 0 (by decide) L31 rfl rfl rfl (Nat.le_of_ble_eq_true rfl) dX8_burner_2 ?_
  refine gv_eqG (mkp_11_0 (by decide)) ?_
  refine g_iload_n C dX8_burner_5 rfl 1 rfl ?_
  refine g_callS (rest := []) (st1 := [.int (f_X8_isBurner x (st ω 120 0 0))]) C (c_X8_isBurner x (st ω 120 0 0)) (va_cwS 1 C.hts gX8_burner_X8_isBurner rfl rfl rfl md_X8_isBurner.2 ⟨Nat.le_of_ble_eq_true rfl, Nat.le_of_ble_eq_true rfl⟩) rfl rfl rfl (Nat.le_of_ble_eq_true rfl) dX8_burner_6 (Nat.zero_le _) (Nat.zero_le _) ?_
  refine g_if_ne (tgt := 14) C dX8_burner_9 (by decide) (fun z => absurd (isBurner_bad hbad) z) (fun _ => ?_)
  refine g_iconst (v := (-1)) C dX8_burner_12 (by decide) ?_
  exact g_iret C hret hlk (e1.trans (pr1 (v := (-1)) (w := (st ω 120 0 0)) rfl)) (e2.trans (pr2 (v := (-1)) (w := (st ω 120 0 0)) rfl)) dX8_burner_13
abbrev rm_X8_staysOpen : Room := { frames := 2, cells := 0, slots := 0, locals := 46 }
theorem md_X8_staysOpen : yX8_staysOpen.cls = RX8 ∧ yX8_staysOpen.cls ≠ "java/lang/invoke/MethodHandle" ∧ yX8_staysOpen.cls ≠ "java/lang/invoke/VarHandle" ∧ (parseMethodDescriptor yX8_staysOpen.desc).map (fun d => d.parameters.length) = some 1 := by decide +kernel
def f_X8_staysOpen_46 : Nat → Nat → Nat → Int32 → Mem → Int32 × Mem
  | 0, _, _, _, ω => (0, ω)
  | fu + 1, k, j, v, ω => (if v < (ω 121 0) then ((nI (j)), ω) else (f_X8_staysOpen_46 fu k (j + 1) (f_X8_cooled (f_X8_get k 0 ω) v 0 ω) ω))
set_option maxRecDepth 100000 in
set_option maxHeartbeats 4000000 in
theorem k_X8_staysOpen_46 {l_ : Launch} {p_ : Program} {e_ : Env} {s_ : State} {m_ : MethodId} {args_ : Array Value} {below_ : List Frame} {meth_ : Method} {c_ : Code} {sa : Nat → Nat} {D : va_G} {X : Nat → ClassId} {ad : Nat → Nat} {G0 : Nat → va_E} (fu : Nat) (k : Nat) (hk : k < 4) (C : GC p_ rm_X8_staysOpen s_ m_ args_ meth_ c_ cX8_staysOpen 4 wsX8_staysOpen RX8 sa D (tyX X) (va_A (gw 128 ad G0) s_.heap.size)) (hret : meth_.sig.returnType = (some .int)) (hlk : meth_.locks = false) : ∀ (j : Nat) (v : Int32) (ω : Mem) (ht0 : 1 ≤ (ω 121 0).toInt) (hv : rg v 1000) (hfuel : v.toNatClampNeg < fu) (rv : Option Value) (G2 : Nat → va_E) (e1 : rv = some (.int (f_X8_staysOpen_46 fu k j v ω).1)) (e2 : G2 = mk X ad (f_X8_staysOpen_46 fu k j v ω).2), GV p_ l_ e_ rm_X8_staysOpen s_ m_ args_ below_ meth_ c_ 0 0 (CQ below_ args_ s_ D 128 ad G0 rv G2) D (va_A (gw 128 ad G0) s_.heap.size) 4 128 ad (mk X ad ω) [(0, .ref (ad 120)), (1, .int (nI (k))), (2, .int (nI (j))), (3, .int v)] 46 [] := by
  have iX8 : ∀ w ∈ u_ws RX8 TX8 14, w ∈ wsX8_staysOpen := by decide +kernel
  have L7 : Cond.fieldLink RX8 7 (TX8 1).1 (TX8 1).2.1 (TX8 1).2.2.1 ∈ wsX8_staysOpen := by decide +kernel
  induction fu with
  | zero =>
    intro j v ω ht0 hv hfuel rv G2 e1 e2
    exact absurd hfuel (by omega)
  | succ fu ih =>
    intro j v ω ht0 hv hfuel rv G2 e1 e2
    refine g_iload_n C dX8_staysOpen_46 rfl 3 rfl ?_
    refine g_aload_n C dX8_staysOpen_47 rfl 0 rfl ?_
    refine g_get (v := .ref (ad 121)) C iX8 (by decide) (mk_11 (by decide)) rfl 1 (by decide) L7 rfl dX8_staysOpen_48 ?_
    refine g_iconst (v := 0) C dX8_staysOpen_51 (by decide) ?_
    refine g_iald (k := 0) C 0 (by decide) (mk_12n (N := 108) (by decide) (by decide)) rfl (by unfold vp_in; decide) rfl dX8_staysOpen_52 ?_
    refine g_icmp_lt (tgt := 74) C dX8_staysOpen_53 (by decide) (fun h1 => ?_) (fun h1 => ?_)
    · refine g_iload_n C dX8_staysOpen_74 rfl 2 rfl ?_
      exact g_iret C hret hlk (e1.trans (pr1 (v := (nI (j))) (w := ω) ((if_pos h1).trans rfl))) (e2.trans (pr2 (v := (nI (j))) (w := ω) ((if_pos h1).trans rfl))) dX8_staysOpen_75
    · refine g_aload_n C dX8_staysOpen_56 rfl 0 rfl ?_
      refine g_iload_n C dX8_staysOpen_57 rfl 1 rfl ?_
      refine g_iconst (v := 0) C dX8_staysOpen_58 (by decide) ?_
      refine g_callV (rest := []) (st1 := [.int (f_X8_get k 0 ω)]) C (c_X8_get k 0 (by omega) (by omega) ω) (cwV 2 C.hts gX8_staysOpen_X8_get rfl rfl rfl md_X8_get ⟨Nat.le_of_ble_eq_true rfl, Nat.le_of_ble_eq_true rfl⟩) (by decide) (mk_11 (by decide)) rfl rfl rfl rfl rfl (Nat.le_of_ble_eq_true rfl) dX8_staysOpen_59 (Nat.zero_le _) (Nat.zero_le _) ?_
      refine g_iload_n C dX8_staysOpen_62 rfl 3 rfl ?_
      refine g_iconst (v := 0) C dX8_staysOpen_63 (by decide) ?_
      refine g_callS (rest := []) (st1 := [.int (f_X8_cooled (f_X8_get k 0 ω) v 0 ω)]) C (c_X8_cooled (f_X8_get k 0 ω) v 0 ω) (va_cwS 3 C.hts gX8_staysOpen_X8_cooled rfl rfl rfl md_X8_cooled.2 ⟨Nat.le_of_ble_eq_true rfl, Nat.le_of_ble_eq_true rfl⟩) rfl rfl rfl (Nat.le_of_ble_eq_true rfl) dX8_staysOpen_64 (Nat.zero_le _) (Nat.zero_le _) ?_
      refine g_istore_n (lv' := [(3, .int (f_X8_cooled (f_X8_get k 0 ω) v 0 ω)), (0, .ref (ad 120)), (1, .int (nI (k))), (2, .int (nI (j)))]) C dX8_staysOpen_67 rfl (by decide) rfl ?_
      refine g_iinc (k := 3) (v := (nI (j + 1))) (lv' := [(2, .int (nI (j + 1))), (3, .int (f_X8_cooled (f_X8_get k 0 ω) v 0 ω)), (0, .ref (ad 120)), (1, .int (nI (k)))]) C dX8_staysOpen_68 rfl (nI_1 (j)) (by decide) rfl ?_
      refine g_goto (tgt := 46) C dX8_staysOpen_71 (by decide) ?_
      refine gv_lv (lv' := [(0, .ref (ad 120)), (1, .int (nI (k))), (2, .int (nI (j + 1))), (3, .int (f_X8_cooled (f_X8_get k 0 ω) v 0 ω))]) [2, 3, 0, 1] rfl ?_
      exact ih (j + 1) (f_X8_cooled (f_X8_get k 0 ω) v 0 ω) ω ht0 (cooled_lt hv (pos_of_ge h1 ht0)).1 (by have := (cooled_lt (k := (f_X8_get k 0 ω)) (ω := ω) hv (pos_of_ge h1 ht0)).2; omega) _ _ (e1.trans (congrArg (fun z : Int32 × Mem => some (Value.int z.1)) ((if_neg h1).trans rfl))) (e2.trans (congrArg (fun z : Int32 × Mem => mk X ad z.2) ((if_neg h1).trans rfl)))
def f_X8_staysOpen (k : Nat) (ω : Mem) : Int32 × Mem := (if (f_X8_isBurner (nI (k)) (st ω 120 0 0)) = 0 then ((-1), (st ω 120 0 0)) else (if (f_X8_get k 1 (st ω 120 0 0)) = 0 then ((-4), (st ω 120 0 0)) else (if (f_X8_get k 6 (st ω 120 0 0)) = 1 then ((-4), (st ω 120 0 0)) else (f_X8_staysOpen_46 1001 k 0 (f_X8_get k 5 (st ω 120 0 0)) (st ω 120 0 0)))))
set_option maxRecDepth 100000 in
set_option maxHeartbeats 4000000 in
theorem c_X8_staysOpen {l_ : Launch} {sa : Nat → Nat} {D : va_G} {X : Nat → ClassId} {ad : Nat → Nat} (k : Nat) (hk : k < 4) (ω : Mem) (ht0 : 1 ≤ (ω 121 0).toInt) (hw0 : rg (ω 121 (68 + 10 * k + 5)) 1000) : CT l_ yX8_staysOpen wsX8_staysOpen rm_X8_staysOpen sa D (tyX X) 128 ad (mk X ad ω) [.ref (ad 120), .int (nI (k))] (some (.int (f_X8_staysOpen k ω).1) : Option Value) (mk X ad (f_X8_staysOpen k ω).2) := by
  refine ct_of [(0, .ref (ad 120)), (1, .int (nI (k)))] (by decide +kernel) rfl rfl (Nat.le_of_ble_eq_true rfl) rfl ?_
  intro p_ e_ s_ m_ args_ below_ meth_ c_ C hret hlk hin
  have e1 : (some (.int (f_X8_staysOpen k ω).1) : Option Value) = (some (.int (f_X8_staysOpen k ω).1) : Option Value) := rfl
  have e2 : mk X ad (f_X8_staysOpen k ω).2 = mk X ad (f_X8_staysOpen k ω).2 := rfl
  have iX8 : ∀ w ∈ u_ws RX8 TX8 14, w ∈ wsX8_staysOpen := by decide +kernel
  have L31 : Cond.fieldLink RX8 31 (TX8 0).1 (TX8 0).2.1 (TX8 0).2.2.1 ∈ wsX8_staysOpen := by decide +kernel
  refine g_aload_n C dX8_staysOpen_0 rfl 0 rfl ?_
  refine g_iconst (v := 0) C dX8_staysOpen_1 (by decide) ?_
  refine g_put C iX8 tyX8 tyX8_ok nmX8 (by decide) (mk_11 (by decide)) rfl 0 (by decide) L31 rfl rfl rfl (Nat.le_of_ble_eq_true rfl) dX8_staysOpen_2 ?_
  refine gv_eqG (mkp_11_0 (by decide)) ?_
  refine g_iload_n C dX8_staysOpen_5 rfl 1 rfl ?_
  refine g_callS (rest := []) (st1 := [.int (f_X8_isBurner (nI (k)) (st ω 120 0 0))]) C (c_X8_isBurner (nI (k)) (st ω 120 0 0)) (va_cwS 1 C.hts gX8_staysOpen_X8_isBurner rfl rfl rfl md_X8_isBurner.2 ⟨Nat.le_of_ble_eq_true rfl, Nat.le_of_ble_eq_true rfl⟩) rfl rfl rfl (Nat.le_of_ble_eq_true rfl) dX8_staysOpen_6 (Nat.zero_le _) (Nat.zero_le _) ?_
  refine g_if_ne (tgt := 14) C dX8_staysOpen_9 (by decide) (fun h1 => ?_) (fun h1 => ?_)
  · refine g_aload_n C dX8_staysOpen_14 rfl 0 rfl ?_
    refine g_iload_n C dX8_staysOpen_15 rfl 1 rfl ?_
    refine g_iconst (v := 1) C dX8_staysOpen_16 (by decide) ?_
    refine g_callV (rest := []) (st1 := [.int (f_X8_get k 1 (st ω 120 0 0))]) C (c_X8_get k 1 (by omega) (by omega) (st ω 120 0 0)) (cwV 2 C.hts gX8_staysOpen_X8_get rfl rfl rfl md_X8_get ⟨Nat.le_of_ble_eq_true rfl, Nat.le_of_ble_eq_true rfl⟩) (by decide) (mk_11 (by decide)) rfl rfl rfl rfl rfl (Nat.le_of_ble_eq_true rfl) dX8_staysOpen_17 (Nat.zero_le _) (Nat.zero_le _) ?_
    refine g_if_eq (tgt := 34) C dX8_staysOpen_20 (by decide) (fun h2 => ?_) (fun h2 => ?_)
    · refine g_bipush (v := (-4)) C dX8_staysOpen_34 (by decide) ?_
      exact g_iret C hret hlk (e1.trans (pr1 (v := (-4)) (w := (st ω 120 0 0)) ((if_neg h1).trans ((if_pos h2).trans rfl)))) (e2.trans (pr2 (v := (-4)) (w := (st ω 120 0 0)) ((if_neg h1).trans ((if_pos h2).trans rfl)))) dX8_staysOpen_36
    · refine g_aload_n C dX8_staysOpen_23 rfl 0 rfl ?_
      refine g_iload_n C dX8_staysOpen_24 rfl 1 rfl ?_
      refine g_bipush (v := 6) C dX8_staysOpen_25 (by decide) ?_
      refine g_callV (rest := []) (st1 := [.int (f_X8_get k 6 (st ω 120 0 0))]) C (c_X8_get k 6 (by omega) (by omega) (st ω 120 0 0)) (cwV 2 C.hts gX8_staysOpen_X8_get rfl rfl rfl md_X8_get ⟨Nat.le_of_ble_eq_true rfl, Nat.le_of_ble_eq_true rfl⟩) (by decide) (mk_11 (by decide)) rfl rfl rfl rfl rfl (Nat.le_of_ble_eq_true rfl) dX8_staysOpen_27 (Nat.zero_le _) (Nat.zero_le _) ?_
      refine g_iconst (v := 1) C dX8_staysOpen_30 (by decide) ?_
      refine g_icmp_ne (tgt := 37) C dX8_staysOpen_31 (by decide) (fun h3 => ?_) (fun h3 => ?_)
      · refine g_iconst (v := 0) C dX8_staysOpen_37 (by decide) ?_
        refine g_istore_n (lv' := [(2, .int 0), (0, .ref (ad 120)), (1, .int (nI (k)))]) C dX8_staysOpen_38 rfl (by decide) rfl ?_
        refine g_aload_n C dX8_staysOpen_39 rfl 1 rfl ?_
        refine g_iload_n C dX8_staysOpen_40 rfl 2 rfl ?_
        refine g_iconst (v := 5) C dX8_staysOpen_41 (by decide) ?_
        refine g_callV (rest := []) (st1 := [.int (f_X8_get k 5 (st ω 120 0 0))]) C (c_X8_get k 5 (by omega) (by omega) (st ω 120 0 0)) (cwV 2 C.hts gX8_staysOpen_X8_get rfl rfl rfl md_X8_get ⟨Nat.le_of_ble_eq_true rfl, Nat.le_of_ble_eq_true rfl⟩) (by decide) (mk_11 (by decide)) rfl rfl rfl rfl rfl (Nat.le_of_ble_eq_true rfl) dX8_staysOpen_42 (Nat.zero_le _) (Nat.zero_le _) ?_
        refine g_istore_n (lv' := [(3, .int (f_X8_get k 5 (st ω 120 0 0))), (2, .int 0), (0, .ref (ad 120)), (1, .int (nI (k)))]) C dX8_staysOpen_45 rfl (by decide) rfl ?_
        refine gv_lv (lv' := [(0, .ref (ad 120)), (1, .int (nI (k))), (2, .int 0), (3, .int (f_X8_get k 5 (st ω 120 0 0)))]) [2, 3, 1, 0] rfl ?_
        exact k_X8_staysOpen_46 (1001) k hk C hret hlk 0 (f_X8_get k 5 (st ω 120 0 0)) (st ω 120 0 0) ht0 hw0 (Nat.lt_of_le_of_lt hw0.2 (by decide)) _ _ (e1.trans (congrArg (fun z : Int32 × Mem => some (Value.int z.1)) ((if_neg h1).trans ((if_neg h2).trans ((if_neg h3).trans rfl))))) (e2.trans (congrArg (fun z : Int32 × Mem => mk X ad z.2) ((if_neg h1).trans ((if_neg h2).trans ((if_neg h3).trans rfl)))))
      · refine g_bipush (v := (-4)) C dX8_staysOpen_34 (by decide) ?_
        exact g_iret C hret hlk (e1.trans (pr1 (v := (-4)) (w := (st ω 120 0 0)) ((if_neg h1).trans ((if_neg h2).trans ((if_pos h3).trans rfl))))) (e2.trans (pr2 (v := (-4)) (w := (st ω 120 0 0)) ((if_neg h1).trans ((if_neg h2).trans ((if_pos h3).trans rfl))))) dX8_staysOpen_36
  · refine g_iconst (v := (-1)) C dX8_staysOpen_12 (by decide) ?_
    exact g_iret C hret hlk (e1.trans (pr1 (v := (-1)) (w := (st ω 120 0 0)) ((if_pos h1).trans rfl))) (e2.trans (pr2 (v := (-1)) (w := (st ω 120 0 0)) ((if_pos h1).trans rfl))) dX8_staysOpen_13
def f_X8_staysOpenB (x : Int32) (ω : Mem) : Int32 × Mem := ((-1), (st ω 120 0 0))
set_option maxRecDepth 100000 in
set_option maxHeartbeats 4000000 in
theorem c_X8_staysOpenB {l_ : Launch} {sa : Nat → Nat} {D : va_G} {X : Nat → ClassId} {ad : Nat → Nat} (x : Int32) (hbad : x < 0 ∨ 4 ≤ x) (ω : Mem)  : CT l_ yX8_staysOpen wsX8_staysOpen rm_X8_staysOpen sa D (tyX X) 128 ad (mk X ad ω) [.ref (ad 120), .int x] (some (.int (f_X8_staysOpenB x ω).1) : Option Value) (mk X ad (f_X8_staysOpenB x ω).2) := by
  refine ct_of [(0, .ref (ad 120)), (1, .int x)] (by decide +kernel) rfl rfl (Nat.le_of_ble_eq_true rfl) rfl ?_
  intro p_ e_ s_ m_ args_ below_ meth_ c_ C hret hlk hin
  have e1 : (some (.int (f_X8_staysOpenB x ω).1) : Option Value) = (some (.int (f_X8_staysOpenB x ω).1) : Option Value) := rfl
  have e2 : mk X ad (f_X8_staysOpenB x ω).2 = mk X ad (f_X8_staysOpenB x ω).2 := rfl
  have iX8 : ∀ w ∈ u_ws RX8 TX8 14, w ∈ wsX8_staysOpen := by decide +kernel
  have L31 : Cond.fieldLink RX8 31 (TX8 0).1 (TX8 0).2.1 (TX8 0).2.2.1 ∈ wsX8_staysOpen := by decide +kernel
  refine g_aload_n C dX8_staysOpen_0 rfl 0 rfl ?_
  refine g_iconst (v := 0) C dX8_staysOpen_1 (by decide) ?_
  refine g_put C iX8 tyX8 tyX8_ok nmX8 (by decide) (mk_11 (by decide)) rfl 0 (by decide) L31 rfl rfl rfl (Nat.le_of_ble_eq_true rfl) dX8_staysOpen_2 ?_
  refine gv_eqG (mkp_11_0 (by decide)) ?_
  refine g_iload_n C dX8_staysOpen_5 rfl 1 rfl ?_
  refine g_callS (rest := []) (st1 := [.int (f_X8_isBurner x (st ω 120 0 0))]) C (c_X8_isBurner x (st ω 120 0 0)) (va_cwS 1 C.hts gX8_staysOpen_X8_isBurner rfl rfl rfl md_X8_isBurner.2 ⟨Nat.le_of_ble_eq_true rfl, Nat.le_of_ble_eq_true rfl⟩) rfl rfl rfl (Nat.le_of_ble_eq_true rfl) dX8_staysOpen_6 (Nat.zero_le _) (Nat.zero_le _) ?_
  refine g_if_ne (tgt := 14) C dX8_staysOpen_9 (by decide) (fun z => absurd (isBurner_bad hbad) z) (fun _ => ?_)
  refine g_iconst (v := (-1)) C dX8_staysOpen_12 (by decide) ?_
  exact g_iret C hret hlk (e1.trans (pr1 (v := (-1)) (w := (st ω 120 0 0)) rfl)) (e2.trans (pr2 (v := (-1)) (w := (st ω 120 0 0)) rfl)) dX8_staysOpen_13
theorem heat_v (k t : Int32) (ω : Mem) : ∃ g : Nat, 500 ≤ g ∧ g ≤ 900 ∧ f_X8_heat k t ω = nI g := by
  unfold f_X8_heat
  by_cases ht : t = 1
  · rw [if_pos ht]
    rcases choose_v k 500 600 550 ω with h | h | h <;> rw [h]
    · exact ⟨500, by decide, by decide, rfl⟩
    · exact ⟨600, by decide, by decide, rfl⟩
    · exact ⟨550, by decide, by decide, rfl⟩
  · rw [if_neg ht]
    rcases choose_v k 700 850 900 ω with h | h | h <;> rw [h]
    · exact ⟨700, by decide, by decide, rfl⟩
    · exact ⟨850, by decide, by decide, rfl⟩
    · exact ⟨900, by decide, by decide, rfl⟩
theorem warmN (c j g : Nat) (hc : 1 < c) (hc2 : c < 100) (hj : j < g) (hg : g < 2 ^ 20) : (if ((nI j + ((nI g - nI j) / nI c)) + 1) ≤ nI g then ((nI j + ((nI g - nI j) / nI c)) + 1) else nI g) = nI (min g (j + (g - j) / c + 1)) := by
  rw [pk_sub (Nat.le_of_lt hj), pk_div (by omega) (by omega) (by omega), nI_add, nI_1]
  have hd : (g - j) / c ≤ g - j := Nat.div_le_self _ _
  generalize (g - j) / c = d at hd ⊢
  by_cases h : j + d + 1 ≤ g
  · rw [if_pos ((nI_leI (by omega) (by omega)).mpr h), Nat.min_eq_right h]
  · rw [if_neg (fun z => h ((nI_leI (by omega) (by omega)).mp z)), Nat.min_eq_left (by omega)]
theorem warmed_nat (k : Int32) (j g : Nat) (hj : j < g) (hg : g < 2 ^ 20) (ω : Mem) : ∃ c : Nat, 1 < c ∧ c < 100 ∧ f_X8_choose k 8 6 10 ω = nI c ∧ f_X8_warmed k (nI j) (nI g) ω = nI (min g (j + (g - j) / c + 1)) := by
  unfold f_X8_warmed
  rcases choose_v k 8 6 10 ω with h | h | h <;> rw [h]
  · exact ⟨8, by decide, by decide, rfl, warmN 8 j g (by decide) (by decide) hj hg⟩
  · exact ⟨6, by decide, by decide, rfl, warmN 6 j g (by decide) (by decide) hj hg⟩
  · exact ⟨10, by decide, by decide, rfl, warmN 10 j g (by decide) (by decide) hj hg⟩
theorem byFlame_up {k v t : Int32} {tap : Int32} {ω : Mem} (h : rg v 1000) (h1 : ¬ t ≤ v) (ht : t.toInt ≤ 450) : rg (f_X8_byFlame k v (f_X8_heat k tap ω) ω) 1000 ∧ v.toNatClampNeg < (f_X8_byFlame k v (f_X8_heat k tap ω) ω).toNatClampNeg ∧ v.toNatClampNeg < 450 := by
  have h2 := h.2
  have hv : v.toNatClampNeg < 450 := by
    rw [Int32.le_iff_toInt_le] at h1
    unfold Int32.toNatClampNeg
    have h9 : v.toInt = (v.toNatClampNeg : Int) := by
      conv => lhs; rw [h.1]
      exact nI_toInt (by omega)
    omega
  obtain ⟨g, g1, g2, e⟩ := heat_v k tap ω
  rw [e]
  obtain ⟨c, -, -, -, e2⟩ := warmed_nat k v.toNatClampNeg g (by omega) (by omega) ω
  rw [← h.1] at e2
  unfold f_X8_byFlame
  rw [if_neg (fun z => by rw [h.1] at z; exact absurd ((nI_leI (by omega) (by omega)).mp z) (by omega)), e2]
  generalize (g - v.toNatClampNeg) / c = d
  rw [nI_clamp (by omega)]
  exact ⟨rg_of (by omega) (by omega), by omega, hv⟩
abbrev rm_X8_toPress : Room := { frames := 3, cells := 0, slots := 0, locals := 68 }
theorem md_X8_toPress : yX8_toPress.cls = RX8 ∧ yX8_toPress.cls ≠ "java/lang/invoke/MethodHandle" ∧ yX8_toPress.cls ≠ "java/lang/invoke/VarHandle" ∧ (parseMethodDescriptor yX8_toPress.desc).map (fun d => d.parameters.length) = some 2 := by decide +kernel
def f_X8_toPress_44 : Nat → Nat → Int32 → Int32 → Nat → Int32 → Mem → Int32 × Mem
  | 0, _, _, _, _, _, ω => (0, ω)
  | fu + 1, k, t, kd, j, v, ω => (if (ω 121 0) ≤ v then ((nI (j)), ω) else (f_X8_toPress_44 fu k t kd (j + 1) (f_X8_byFlame kd v (f_X8_heat kd t ω) ω) ω))
set_option maxRecDepth 100000 in
set_option maxHeartbeats 4000000 in
theorem k_X8_toPress_44 {l_ : Launch} {p_ : Program} {e_ : Env} {s_ : State} {m_ : MethodId} {args_ : Array Value} {below_ : List Frame} {meth_ : Method} {c_ : Code} {sa : Nat → Nat} {D : va_G} {X : Nat → ClassId} {ad : Nat → Nat} {G0 : Nat → va_E} (fu : Nat) (k : Nat) (t : Int32) (hk : k < 4) (C : GC p_ rm_X8_toPress s_ m_ args_ meth_ c_ cX8_toPress 6 wsX8_toPress RX8 sa D (tyX X) (va_A (gw 128 ad G0) s_.heap.size)) (hret : meth_.sig.returnType = (some .int)) (hlk : meth_.locks = false) : ∀ (kd : Int32) (j : Nat) (v : Int32) (ω : Mem) (ht0 : (ω 121 0).toInt ≤ 450) (hv : rg v 1000) (hfuel : 1000 < v.toNatClampNeg + fu ∧ v.toNatClampNeg ≤ 1000) (rv : Option Value) (G2 : Nat → va_E) (e1 : rv = some (.int (f_X8_toPress_44 fu k t kd j v ω).1)) (e2 : G2 = mk X ad (f_X8_toPress_44 fu k t kd j v ω).2), GV p_ l_ e_ rm_X8_toPress s_ m_ args_ below_ meth_ c_ 0 0 (CQ below_ args_ s_ D 128 ad G0 rv G2) D (va_A (gw 128 ad G0) s_.heap.size) 6 128 ad (mk X ad ω) [(0, .ref (ad 120)), (1, .int (nI (k))), (2, .int t), (3, .int kd), (4, .int (nI (j))), (5, .int v)] 44 [] := by
  have iX8 : ∀ w ∈ u_ws RX8 TX8 14, w ∈ wsX8_toPress := by decide +kernel
  have L7 : Cond.fieldLink RX8 7 (TX8 1).1 (TX8 1).2.1 (TX8 1).2.2.1 ∈ wsX8_toPress := by decide +kernel
  induction fu with
  | zero =>
    intro kd j v ω ht0 hv hfuel rv G2 e1 e2
    exact absurd hfuel (by omega)
  | succ fu ih =>
    intro kd j v ω ht0 hv hfuel rv G2 e1 e2
    refine g_iload C dX8_toPress_44 5 rfl ?_
    refine g_aload_n C dX8_toPress_46 rfl 0 rfl ?_
    refine g_get (v := .ref (ad 121)) C iX8 (by decide) (mk_11 (by decide)) rfl 1 (by decide) L7 rfl dX8_toPress_47 ?_
    refine g_iconst (v := 0) C dX8_toPress_50 (by decide) ?_
    refine g_iald (k := 0) C 0 (by decide) (mk_12n (N := 108) (by decide) (by decide)) rfl (by unfold vp_in; decide) rfl dX8_toPress_51 ?_
    refine g_icmp_ge (tgt := 74) C dX8_toPress_52 (by decide) (fun h1 => ?_) (fun h1 => ?_)
    · refine g_iload C dX8_toPress_74 4 rfl ?_
      exact g_iret C hret hlk (e1.trans (pr1 (v := (nI (j))) (w := ω) ((if_pos h1).trans rfl))) (e2.trans (pr2 (v := (nI (j))) (w := ω) ((if_pos h1).trans rfl))) dX8_toPress_76
    · refine g_iload_n C dX8_toPress_55 rfl 3 rfl ?_
      refine g_iload C dX8_toPress_56 5 rfl ?_
      refine g_iload_n C dX8_toPress_58 rfl 3 rfl ?_
      refine g_iload_n C dX8_toPress_59 rfl 2 rfl ?_
      refine g_callS (rest := [.int v, .int kd]) (st1 := [.int (f_X8_heat kd t ω), .int v, .int kd]) C (c_X8_heat kd t ω) (va_cwS 2 C.hts gX8_toPress_X8_heat rfl rfl rfl md_X8_heat.2 ⟨Nat.le_of_ble_eq_true rfl, Nat.le_of_ble_eq_true rfl⟩) rfl rfl rfl (Nat.le_of_ble_eq_true rfl) dX8_toPress_60 (Nat.zero_le _) (Nat.zero_le _) ?_
      refine g_callS (rest := []) (st1 := [.int (f_X8_byFlame kd v (f_X8_heat kd t ω) ω)]) C (c_X8_byFlame kd v (f_X8_heat kd t ω) ω) (va_cwS 3 C.hts gX8_toPress_X8_byFlame rfl rfl rfl md_X8_byFlame.2 ⟨Nat.le_of_ble_eq_true rfl, Nat.le_of_ble_eq_true rfl⟩) rfl rfl rfl (Nat.le_of_ble_eq_true rfl) dX8_toPress_63 (Nat.zero_le _) (Nat.zero_le _) ?_
      refine g_istore (lv' := [(5, .int (f_X8_byFlame kd v (f_X8_heat kd t ω) ω)), (0, .ref (ad 120)), (1, .int (nI (k))), (2, .int t), (3, .int kd), (4, .int (nI (j)))]) C dX8_toPress_66 (by decide) rfl ?_
      refine g_iinc (k := 5) (v := (nI (j + 1))) (lv' := [(4, .int (nI (j + 1))), (5, .int (f_X8_byFlame kd v (f_X8_heat kd t ω) ω)), (0, .ref (ad 120)), (1, .int (nI (k))), (2, .int t), (3, .int kd)]) C dX8_toPress_68 rfl (nI_1 (j)) (by decide) rfl ?_
      refine g_goto (tgt := 44) C dX8_toPress_71 (by decide) ?_
      refine gv_lv (lv' := [(0, .ref (ad 120)), (1, .int (nI (k))), (2, .int t), (3, .int kd), (4, .int (nI (j + 1))), (5, .int (f_X8_byFlame kd v (f_X8_heat kd t ω) ω))]) [2, 3, 4, 5, 0, 1] rfl ?_
      exact ih kd (j + 1) (f_X8_byFlame kd v (f_X8_heat kd t ω) ω) ω ht0 (byFlame_up hv h1 ht0).1 (by have q1 := (byFlame_up (k := kd) (tap := t) (ω := ω) hv h1 ht0).2; have q2 := (byFlame_up (k := kd) (tap := t) (ω := ω) hv h1 ht0).1.2; omega) _ _ (e1.trans (congrArg (fun z : Int32 × Mem => some (Value.int z.1)) ((if_neg h1).trans rfl))) (e2.trans (congrArg (fun z : Int32 × Mem => mk X ad z.2) ((if_neg h1).trans rfl)))
def f_X8_toPress (k : Nat) (t : Int32) (ω : Mem) : Int32 × Mem := (if (f_X8_isBurner (nI (k)) (st ω 120 0 0)) = 0 then ((-1), (st ω 120 0 0)) else (if (f_X8_in t 1 2 (st ω 120 0 0)) = 0 then ((-2), (st ω 120 0 0)) else (f_X8_toPress_44 1001 k t (f_X8_get k 0 (st ω 120 0 0)) 0 (f_X8_get k 5 (st ω 120 0 0)) (st ω 120 0 0))))
set_option maxRecDepth 100000 in
set_option maxHeartbeats 4000000 in
theorem c_X8_toPress {l_ : Launch} {sa : Nat → Nat} {D : va_G} {X : Nat → ClassId} {ad : Nat → Nat} (k : Nat) (t : Int32) (hk : k < 4) (ω : Mem) (ht0 : (ω 121 0).toInt ≤ 450) (hw0 : rg (ω 121 (68 + 10 * k + 5)) 1000) : CT l_ yX8_toPress wsX8_toPress rm_X8_toPress sa D (tyX X) 128 ad (mk X ad ω) [.ref (ad 120), .int (nI (k)), .int t] (some (.int (f_X8_toPress k t ω).1) : Option Value) (mk X ad (f_X8_toPress k t ω).2) := by
  refine ct_of [(0, .ref (ad 120)), (1, .int (nI (k))), (2, .int t)] (by decide +kernel) rfl rfl (Nat.le_of_ble_eq_true rfl) rfl ?_
  intro p_ e_ s_ m_ args_ below_ meth_ c_ C hret hlk hin
  have e1 : (some (.int (f_X8_toPress k t ω).1) : Option Value) = (some (.int (f_X8_toPress k t ω).1) : Option Value) := rfl
  have e2 : mk X ad (f_X8_toPress k t ω).2 = mk X ad (f_X8_toPress k t ω).2 := rfl
  have iX8 : ∀ w ∈ u_ws RX8 TX8 14, w ∈ wsX8_toPress := by decide +kernel
  have L31 : Cond.fieldLink RX8 31 (TX8 0).1 (TX8 0).2.1 (TX8 0).2.2.1 ∈ wsX8_toPress := by decide +kernel
  refine g_aload_n C dX8_toPress_0 rfl 0 rfl ?_
  refine g_iconst (v := 0) C dX8_toPress_1 (by decide) ?_
  refine g_put C iX8 tyX8 tyX8_ok nmX8 (by decide) (mk_11 (by decide)) rfl 0 (by decide) L31 rfl rfl rfl (Nat.le_of_ble_eq_true rfl) dX8_toPress_2 ?_
  refine gv_eqG (mkp_11_0 (by decide)) ?_
  refine g_iload_n C dX8_toPress_5 rfl 1 rfl ?_
  refine g_callS (rest := []) (st1 := [.int (f_X8_isBurner (nI (k)) (st ω 120 0 0))]) C (c_X8_isBurner (nI (k)) (st ω 120 0 0)) (va_cwS 1 C.hts gX8_toPress_X8_isBurner rfl rfl rfl md_X8_isBurner.2 ⟨Nat.le_of_ble_eq_true rfl, Nat.le_of_ble_eq_true rfl⟩) rfl rfl rfl (Nat.le_of_ble_eq_true rfl) dX8_toPress_6 (Nat.zero_le _) (Nat.zero_le _) ?_
  refine g_if_ne (tgt := 14) C dX8_toPress_9 (by decide) (fun h1 => ?_) (fun h1 => ?_)
  · refine g_iload_n C dX8_toPress_14 rfl 2 rfl ?_
    refine g_iconst (v := 1) C dX8_toPress_15 (by decide) ?_
    refine g_iconst (v := 2) C dX8_toPress_16 (by decide) ?_
    refine g_callS (rest := []) (st1 := [.int (f_X8_in t 1 2 (st ω 120 0 0))]) C (c_X8_in t 1 2 (st ω 120 0 0)) (va_cwS 3 C.hts gX8_toPress_X8_in rfl rfl rfl md_X8_in.2 ⟨Nat.le_of_ble_eq_true rfl, Nat.le_of_ble_eq_true rfl⟩) rfl rfl rfl (Nat.le_of_ble_eq_true rfl) dX8_toPress_17 (Nat.zero_le _) (Nat.zero_le _) ?_
    refine g_if_ne (tgt := 26) C dX8_toPress_20 (by decide) (fun h2 => ?_) (fun h2 => ?_)
    · refine g_aload_n C dX8_toPress_26 rfl 0 rfl ?_
      refine g_iload_n C dX8_toPress_27 rfl 1 rfl ?_
      refine g_iconst (v := 0) C dX8_toPress_28 (by decide) ?_
      refine g_callV (rest := []) (st1 := [.int (f_X8_get k 0 (st ω 120 0 0))]) C (c_X8_get k 0 (by omega) (by omega) (st ω 120 0 0)) (cwV 2 C.hts gX8_toPress_X8_get rfl rfl rfl md_X8_get ⟨Nat.le_of_ble_eq_true rfl, Nat.le_of_ble_eq_true rfl⟩) (by decide) (mk_11 (by decide)) rfl rfl rfl rfl rfl (Nat.le_of_ble_eq_true rfl) dX8_toPress_29 (Nat.zero_le _) (Nat.zero_le _) ?_
      refine g_istore_n (lv' := [(3, .int (f_X8_get k 0 (st ω 120 0 0))), (0, .ref (ad 120)), (1, .int (nI (k))), (2, .int t)]) C dX8_toPress_32 rfl (by decide) rfl ?_
      refine g_iconst (v := 0) C dX8_toPress_33 (by decide) ?_
      refine g_istore (lv' := [(4, .int 0), (3, .int (f_X8_get k 0 (st ω 120 0 0))), (0, .ref (ad 120)), (1, .int (nI (k))), (2, .int t)]) C dX8_toPress_34 (by decide) rfl ?_
      refine g_aload_n C dX8_toPress_36 rfl 2 rfl ?_
      refine g_iload_n C dX8_toPress_37 rfl 3 rfl ?_
      refine g_iconst (v := 5) C dX8_toPress_38 (by decide) ?_
      refine g_callV (rest := []) (st1 := [.int (f_X8_get k 5 (st ω 120 0 0))]) C (c_X8_get k 5 (by omega) (by omega) (st ω 120 0 0)) (cwV 2 C.hts gX8_toPress_X8_get rfl rfl rfl md_X8_get ⟨Nat.le_of_ble_eq_true rfl, Nat.le_of_ble_eq_true rfl⟩) (by decide) (mk_11 (by decide)) rfl rfl rfl rfl rfl (Nat.le_of_ble_eq_true rfl) dX8_toPress_39 (Nat.zero_le _) (Nat.zero_le _) ?_
      refine g_istore (lv' := [(5, .int (f_X8_get k 5 (st ω 120 0 0))), (4, .int 0), (3, .int (f_X8_get k 0 (st ω 120 0 0))), (0, .ref (ad 120)), (1, .int (nI (k))), (2, .int t)]) C dX8_toPress_42 (by decide) rfl ?_
      refine gv_lv (lv' := [(0, .ref (ad 120)), (1, .int (nI (k))), (2, .int t), (3, .int (f_X8_get k 0 (st ω 120 0 0))), (4, .int 0), (5, .int (f_X8_get k 5 (st ω 120 0 0)))]) [3, 4, 5, 2, 1, 0] rfl ?_
      exact k_X8_toPress_44 (1001) k t hk C hret hlk (f_X8_get k 0 (st ω 120 0 0)) 0 (f_X8_get k 5 (st ω 120 0 0)) (st ω 120 0 0) ht0 hw0 ⟨Nat.lt_of_lt_of_le (by decide : 1000 < 1001) (Nat.le_add_left _ _), hw0.2⟩ _ _ (e1.trans (congrArg (fun z : Int32 × Mem => some (Value.int z.1)) ((if_neg h1).trans ((if_neg h2).trans rfl)))) (e2.trans (congrArg (fun z : Int32 × Mem => mk X ad z.2) ((if_neg h1).trans ((if_neg h2).trans rfl))))
    · refine g_bipush (v := (-2)) C dX8_toPress_23 (by decide) ?_
      exact g_iret C hret hlk (e1.trans (pr1 (v := (-2)) (w := (st ω 120 0 0)) ((if_neg h1).trans ((if_pos h2).trans rfl)))) (e2.trans (pr2 (v := (-2)) (w := (st ω 120 0 0)) ((if_neg h1).trans ((if_pos h2).trans rfl)))) dX8_toPress_25
  · refine g_iconst (v := (-1)) C dX8_toPress_12 (by decide) ?_
    exact g_iret C hret hlk (e1.trans (pr1 (v := (-1)) (w := (st ω 120 0 0)) ((if_pos h1).trans rfl))) (e2.trans (pr2 (v := (-1)) (w := (st ω 120 0 0)) ((if_pos h1).trans rfl))) dX8_toPress_13
def f_X8_toPressB (x : Int32) (t : Int32) (ω : Mem) : Int32 × Mem := ((-1), (st ω 120 0 0))
set_option maxRecDepth 100000 in
set_option maxHeartbeats 4000000 in
theorem c_X8_toPressB {l_ : Launch} {sa : Nat → Nat} {D : va_G} {X : Nat → ClassId} {ad : Nat → Nat} (x : Int32) (t : Int32) (hbad : x < 0 ∨ 4 ≤ x) (ω : Mem)  : CT l_ yX8_toPress wsX8_toPress rm_X8_toPress sa D (tyX X) 128 ad (mk X ad ω) [.ref (ad 120), .int x, .int t] (some (.int (f_X8_toPressB x t ω).1) : Option Value) (mk X ad (f_X8_toPressB x t ω).2) := by
  refine ct_of [(0, .ref (ad 120)), (1, .int x), (2, .int t)] (by decide +kernel) rfl rfl (Nat.le_of_ble_eq_true rfl) rfl ?_
  intro p_ e_ s_ m_ args_ below_ meth_ c_ C hret hlk hin
  have e1 : (some (.int (f_X8_toPressB x t ω).1) : Option Value) = (some (.int (f_X8_toPressB x t ω).1) : Option Value) := rfl
  have e2 : mk X ad (f_X8_toPressB x t ω).2 = mk X ad (f_X8_toPressB x t ω).2 := rfl
  have iX8 : ∀ w ∈ u_ws RX8 TX8 14, w ∈ wsX8_toPress := by decide +kernel
  have L31 : Cond.fieldLink RX8 31 (TX8 0).1 (TX8 0).2.1 (TX8 0).2.2.1 ∈ wsX8_toPress := by decide +kernel
  refine g_aload_n C dX8_toPress_0 rfl 0 rfl ?_
  refine g_iconst (v := 0) C dX8_toPress_1 (by decide) ?_
  refine g_put C iX8 tyX8 tyX8_ok nmX8 (by decide) (mk_11 (by decide)) rfl 0 (by decide) L31 rfl rfl rfl (Nat.le_of_ble_eq_true rfl) dX8_toPress_2 ?_
  refine gv_eqG (mkp_11_0 (by decide)) ?_
  refine g_iload_n C dX8_toPress_5 rfl 1 rfl ?_
  refine g_callS (rest := []) (st1 := [.int (f_X8_isBurner x (st ω 120 0 0))]) C (c_X8_isBurner x (st ω 120 0 0)) (va_cwS 1 C.hts gX8_toPress_X8_isBurner rfl rfl rfl md_X8_isBurner.2 ⟨Nat.le_of_ble_eq_true rfl, Nat.le_of_ble_eq_true rfl⟩) rfl rfl rfl (Nat.le_of_ble_eq_true rfl) dX8_toPress_6 (Nat.zero_le _) (Nat.zero_le _) ?_
  refine g_if_ne (tgt := 14) C dX8_toPress_9 (by decide) (fun z => absurd (isBurner_bad hbad) z) (fun _ => ?_)
  refine g_iconst (v := (-1)) C dX8_toPress_12 (by decide) ?_
  exact g_iret C hret hlk (e1.trans (pr1 (v := (-1)) (w := (st ω 120 0 0)) rfl)) (e2.trans (pr2 (v := (-1)) (w := (st ω 120 0 0)) rfl)) dX8_toPress_13
abbrev rm_X8_isClear : Room := { frames := 2, cells := 0, slots := 0, locals := 43 }
theorem md_X8_isClear : yX8_isClear.cls = RX8 ∧ yX8_isClear.cls ≠ "java/lang/invoke/MethodHandle" ∧ yX8_isClear.cls ≠ "java/lang/invoke/VarHandle" ∧ (parseMethodDescriptor yX8_isClear.desc).map (fun d => d.parameters.length) = some 0 := by decide +kernel
def f_X8_isClear_17 : Nat → Int32 → Nat → Mem → Int32
  | 0, _, _, _ => 0
  | fu + 1, v, j, ω => (if 4 ≤ j then v else (if v = 0 then (f_X8_isClear_17 fu 0 (j + 1) ω) else (if (f_X8_isOpen j ω) = 0 then (f_X8_isClear_17 fu 1 (j + 1) ω) else (if (f_X8_get j 4 ω) = 0 then (f_X8_isClear_17 fu 0 (j + 1) ω) else (f_X8_isClear_17 fu 1 (j + 1) ω)))))
set_option maxRecDepth 100000 in
set_option maxHeartbeats 4000000 in
theorem k_X8_isClear_17 {l_ : Launch} {p_ : Program} {e_ : Env} {s_ : State} {m_ : MethodId} {args_ : Array Value} {below_ : List Frame} {meth_ : Method} {c_ : Code} {sa : Nat → Nat} {D : va_G} {X : Nat → ClassId} {ad : Nat → Nat} {G0 : Nat → va_E} (fu : Nat)  (C : GC p_ rm_X8_isClear s_ m_ args_ meth_ c_ cX8_isClear 3 wsX8_isClear RX8 sa D (tyX X) (va_A (gw 128 ad G0) s_.heap.size)) (hret : meth_.sig.returnType = (some .boolean)) (hlk : meth_.locks = false) : ∀ (v : Int32) (j : Nat) (ω : Mem) (hj : j ≤ 4) (hfuel : 4 < j + fu) (hb_v : bb v = v) (rv : Option Value) (G2 : Nat → va_E) (e1 : rv = some (.int (f_X8_isClear_17 fu v j ω))) (e2 : G2 = mk X ad ω), GV p_ l_ e_ rm_X8_isClear s_ m_ args_ below_ meth_ c_ 0 0 (CQ below_ args_ s_ D 128 ad G0 rv G2) D (va_A (gw 128 ad G0) s_.heap.size) 3 128 ad (mk X ad ω) [(0, .ref (ad 120)), (1, .int v), (2, .int (nI (j)))] 17 [] := by
  induction fu with
  | zero =>
    intro v j ω hj hfuel hb_v rv G2 e1 e2
    exact absurd hfuel (by omega)
  | succ fu ih =>
    intro v j ω hj hfuel hb_v rv G2 e1 e2
    refine g_iload_n C dX8_isClear_17 rfl 2 rfl ?_
    refine g_iconst (v := 4) C dX8_isClear_18 (by decide) ?_
    refine g_icmp_ge (tgt := 55) C dX8_isClear_19 (by decide) (fun h1 => ?_) (fun h1 => ?_)
    · have h1n := (nI_leI (a := 4) (b := j) (by omega) (by omega)).mp h1
      refine g_iload_n C dX8_isClear_55 rfl 1 rfl ?_
      exact g_zret C hret hlk (nar_b hb_v).1 (e1.trans (congrArg (fun z => some (Value.int z)) ((if_pos h1n).trans rfl))) e2 dX8_isClear_56
    · have h1n := (not_congr (nI_leI (a := 4) (b := j) (by omega) (by omega))).mp h1
      refine g_iload_n C dX8_isClear_22 rfl 1 rfl ?_
      refine g_if_eq (tgt := 47) C dX8_isClear_23 (by decide) (fun h2 => ?_) (fun h2 => ?_)
      · refine g_iconst (v := 0) C dX8_isClear_47 (by decide) ?_
        refine g_istore_n (lv' := [(1, .int 0), (0, .ref (ad 120)), (2, .int (nI (j)))]) C dX8_isClear_48 rfl (by decide) rfl ?_
        refine g_iinc (k := 2) (v := (nI (j + 1))) (lv' := [(2, .int (nI (j + 1))), (1, .int 0), (0, .ref (ad 120))]) C dX8_isClear_49 rfl (nI_1 (j)) (by decide) rfl ?_
        refine g_goto (tgt := 17) C dX8_isClear_52 (by decide) ?_
        refine gv_lv (lv' := [(0, .ref (ad 120)), (1, .int 0), (2, .int (nI (j + 1)))]) [2, 1, 0] rfl ?_
        exact ih 0 (j + 1) ω (by omega) (by omega) (by decide) _ _ (e1.trans (congrArg (fun z => some (Value.int z)) ((if_neg h1n).trans ((if_pos h2).trans rfl)))) e2
      · refine g_aload_n C dX8_isClear_26 rfl 0 rfl ?_
        refine g_iload_n C dX8_isClear_27 rfl 2 rfl ?_
        refine g_callV (rest := []) (st1 := [.int (f_X8_isOpen j ω)]) C (c_X8_isOpen j (by omega) ω) (cwV 1 C.hts gX8_isClear_X8_isOpen rfl rfl rfl md_X8_isOpen ⟨Nat.le_of_ble_eq_true rfl, Nat.le_of_ble_eq_true rfl⟩) (by decide) (mk_11 (by decide)) rfl rfl rfl rfl rfl (Nat.le_of_ble_eq_true rfl) dX8_isClear_28 (Nat.zero_le _) (Nat.zero_le _) ?_
        refine g_if_eq (tgt := 43) C dX8_isClear_31 (by decide) (fun h3 => ?_) (fun h3 => ?_)
        · refine g_iconst (v := 1) C dX8_isClear_43 (by decide) ?_
          refine g_goto (tgt := 48) C dX8_isClear_44 (by decide) ?_
          refine g_istore_n (lv' := [(1, .int 1), (0, .ref (ad 120)), (2, .int (nI (j)))]) C dX8_isClear_48 rfl (by decide) rfl ?_
          refine g_iinc (k := 2) (v := (nI (j + 1))) (lv' := [(2, .int (nI (j + 1))), (1, .int 1), (0, .ref (ad 120))]) C dX8_isClear_49 rfl (nI_1 (j)) (by decide) rfl ?_
          refine g_goto (tgt := 17) C dX8_isClear_52 (by decide) ?_
          refine gv_lv (lv' := [(0, .ref (ad 120)), (1, .int 1), (2, .int (nI (j + 1)))]) [2, 1, 0] rfl ?_
          exact ih 1 (j + 1) ω (by omega) (by omega) (by decide) _ _ (e1.trans (congrArg (fun z => some (Value.int z)) ((if_neg h1n).trans ((if_neg h2).trans ((if_pos h3).trans rfl))))) e2
        · refine g_aload_n C dX8_isClear_34 rfl 0 rfl ?_
          refine g_iload_n C dX8_isClear_35 rfl 2 rfl ?_
          refine g_iconst (v := 4) C dX8_isClear_36 (by decide) ?_
          refine g_callV (rest := []) (st1 := [.int (f_X8_get j 4 ω)]) C (c_X8_get j 4 (by omega) (by omega) ω) (cwV 2 C.hts gX8_isClear_X8_get rfl rfl rfl md_X8_get ⟨Nat.le_of_ble_eq_true rfl, Nat.le_of_ble_eq_true rfl⟩) (by decide) (mk_11 (by decide)) rfl rfl rfl rfl rfl (Nat.le_of_ble_eq_true rfl) dX8_isClear_37 (Nat.zero_le _) (Nat.zero_le _) ?_
          refine g_if_eq (tgt := 47) C dX8_isClear_40 (by decide) (fun h4 => ?_) (fun h4 => ?_)
          · refine g_iconst (v := 0) C dX8_isClear_47 (by decide) ?_
            refine g_istore_n (lv' := [(1, .int 0), (0, .ref (ad 120)), (2, .int (nI (j)))]) C dX8_isClear_48 rfl (by decide) rfl ?_
            refine g_iinc (k := 2) (v := (nI (j + 1))) (lv' := [(2, .int (nI (j + 1))), (1, .int 0), (0, .ref (ad 120))]) C dX8_isClear_49 rfl (nI_1 (j)) (by decide) rfl ?_
            refine g_goto (tgt := 17) C dX8_isClear_52 (by decide) ?_
            refine gv_lv (lv' := [(0, .ref (ad 120)), (1, .int 0), (2, .int (nI (j + 1)))]) [2, 1, 0] rfl ?_
            exact ih 0 (j + 1) ω (by omega) (by omega) (by decide) _ _ (e1.trans (congrArg (fun z => some (Value.int z)) ((if_neg h1n).trans ((if_neg h2).trans ((if_neg h3).trans ((if_pos h4).trans rfl)))))) e2
          · refine g_iconst (v := 1) C dX8_isClear_43 (by decide) ?_
            refine g_goto (tgt := 48) C dX8_isClear_44 (by decide) ?_
            refine g_istore_n (lv' := [(1, .int 1), (0, .ref (ad 120)), (2, .int (nI (j)))]) C dX8_isClear_48 rfl (by decide) rfl ?_
            refine g_iinc (k := 2) (v := (nI (j + 1))) (lv' := [(2, .int (nI (j + 1))), (1, .int 1), (0, .ref (ad 120))]) C dX8_isClear_49 rfl (nI_1 (j)) (by decide) rfl ?_
            refine g_goto (tgt := 17) C dX8_isClear_52 (by decide) ?_
            refine gv_lv (lv' := [(0, .ref (ad 120)), (1, .int 1), (2, .int (nI (j + 1)))]) [2, 1, 0] rfl ?_
            exact ih 1 (j + 1) ω (by omega) (by omega) (by decide) _ _ (e1.trans (congrArg (fun z => some (Value.int z)) ((if_neg h1n).trans ((if_neg h2).trans ((if_neg h3).trans ((if_neg h4).trans rfl)))))) e2
def f_X8_isClear  (ω : Mem) : Int32 := (if (ω 121 5) = 0 then (f_X8_isClear_17 5 1 0 ω) else (f_X8_isClear_17 5 0 0 ω))
set_option maxRecDepth 100000 in
set_option maxHeartbeats 4000000 in
theorem c_X8_isClear {l_ : Launch} {sa : Nat → Nat} {D : va_G} {X : Nat → ClassId} {ad : Nat → Nat}  (ω : Mem)  : CT l_ yX8_isClear wsX8_isClear rm_X8_isClear sa D (tyX X) 128 ad (mk X ad ω) [.ref (ad 120)] (some (.int (f_X8_isClear ω)) : Option Value) (mk X ad ω) := by
  refine ct_of [(0, .ref (ad 120))] (by decide +kernel) rfl rfl (Nat.le_of_ble_eq_true rfl) rfl ?_
  intro p_ e_ s_ m_ args_ below_ meth_ c_ C hret hlk hin
  have e1 : (some (.int (f_X8_isClear ω)) : Option Value) = (some (.int (f_X8_isClear ω)) : Option Value) := rfl
  have e2 : mk X ad ω = mk X ad ω := rfl
  have iX8 : ∀ w ∈ u_ws RX8 TX8 14, w ∈ wsX8_isClear := by decide +kernel
  have L7 : Cond.fieldLink RX8 7 (TX8 1).1 (TX8 1).2.1 (TX8 1).2.2.1 ∈ wsX8_isClear := by decide +kernel
  refine g_aload_n C dX8_isClear_0 rfl 0 rfl ?_
  refine g_get (v := .ref (ad 121)) C iX8 (by decide) (mk_11 (by decide)) rfl 1 (by decide) L7 rfl dX8_isClear_1 ?_
  refine g_iconst (v := 5) C dX8_isClear_4 (by decide) ?_
  refine g_iald (k := 5) C 0 (by decide) (mk_12n (N := 108) (by decide) (by decide)) rfl (by unfold vp_in; decide) rfl dX8_isClear_5 ?_
  refine g_if_ne (tgt := 13) C dX8_isClear_6 (by decide) (fun h1 => ?_) (fun h1 => ?_)
  · refine g_iconst (v := 0) C dX8_isClear_13 (by decide) ?_
    refine g_istore_n (lv' := [(1, .int 0), (0, .ref (ad 120))]) C dX8_isClear_14 rfl (by decide) rfl ?_
    refine g_iconst (v := 0) C dX8_isClear_15 (by decide) ?_
    refine g_istore_n (lv' := [(2, .int 0), (1, .int 0), (0, .ref (ad 120))]) C dX8_isClear_16 rfl (by decide) rfl ?_
    refine gv_lv (lv' := [(0, .ref (ad 120)), (1, .int 0), (2, .int 0)]) [2, 1, 0] rfl ?_
    exact k_X8_isClear_17 (5)   C hret hlk 0 0 ω (by omega) (by omega) (by decide) _ _ (e1.trans (congrArg (fun z => some (Value.int z)) ((if_neg h1).trans rfl))) e2
  · refine g_iconst (v := 1) C dX8_isClear_9 (by decide) ?_
    refine g_goto (tgt := 14) C dX8_isClear_10 (by decide) ?_
    refine g_istore_n (lv' := [(1, .int 1), (0, .ref (ad 120))]) C dX8_isClear_14 rfl (by decide) rfl ?_
    refine g_iconst (v := 0) C dX8_isClear_15 (by decide) ?_
    refine g_istore_n (lv' := [(2, .int 0), (1, .int 1), (0, .ref (ad 120))]) C dX8_isClear_16 rfl (by decide) rfl ?_
    refine gv_lv (lv' := [(0, .ref (ad 120)), (1, .int 1), (2, .int 0)]) [2, 1, 0] rfl ?_
    exact k_X8_isClear_17 (5)   C hret hlk 1 0 ω (by omega) (by omega) (by decide) _ _ (e1.trans (congrArg (fun z => some (Value.int z)) ((if_pos h1).trans rfl))) e2
abbrev rm_X8_openValves : Room := { frames := 2, cells := 0, slots := 0, locals := 43 }
theorem md_X8_openValves : yX8_openValves.cls = RX8 ∧ yX8_openValves.cls ≠ "java/lang/invoke/MethodHandle" ∧ yX8_openValves.cls ≠ "java/lang/invoke/VarHandle" ∧ (parseMethodDescriptor yX8_openValves.desc).map (fun d => d.parameters.length) = some 0 := by decide +kernel
def f_X8_openValves_4 : Nat → Int32 → Nat → Mem → Int32
  | 0, _, _, _ => 0
  | fu + 1, v, j, ω => (if 4 ≤ j then v else (if (f_X8_isOpen j ω) = 0 then (f_X8_openValves_4 fu (v + 0) (j + 1) ω) else (f_X8_openValves_4 fu (v + 1) (j + 1) ω)))
set_option maxRecDepth 100000 in
set_option maxHeartbeats 4000000 in
theorem k_X8_openValves_4 {l_ : Launch} {p_ : Program} {e_ : Env} {s_ : State} {m_ : MethodId} {args_ : Array Value} {below_ : List Frame} {meth_ : Method} {c_ : Code} {sa : Nat → Nat} {D : va_G} {X : Nat → ClassId} {ad : Nat → Nat} {G0 : Nat → va_E} (fu : Nat)  (C : GC p_ rm_X8_openValves s_ m_ args_ meth_ c_ cX8_openValves 3 wsX8_openValves RX8 sa D (tyX X) (va_A (gw 128 ad G0) s_.heap.size)) (hret : meth_.sig.returnType = (some .int)) (hlk : meth_.locks = false) : ∀ (v : Int32) (j : Nat) (ω : Mem) (hj : j ≤ 4) (hfuel : 4 < j + fu) (rv : Option Value) (G2 : Nat → va_E) (e1 : rv = some (.int (f_X8_openValves_4 fu v j ω))) (e2 : G2 = mk X ad ω), GV p_ l_ e_ rm_X8_openValves s_ m_ args_ below_ meth_ c_ 0 0 (CQ below_ args_ s_ D 128 ad G0 rv G2) D (va_A (gw 128 ad G0) s_.heap.size) 3 128 ad (mk X ad ω) [(0, .ref (ad 120)), (1, .int v), (2, .int (nI (j)))] 4 [] := by
  induction fu with
  | zero =>
    intro v j ω hj hfuel rv G2 e1 e2
    exact absurd hfuel (by omega)
  | succ fu ih =>
    intro v j ω hj hfuel rv G2 e1 e2
    refine g_iload_n C dX8_openValves_4 rfl 2 rfl ?_
    refine g_iconst (v := 4) C dX8_openValves_5 (by decide) ?_
    refine g_icmp_ge (tgt := 31) C dX8_openValves_6 (by decide) (fun h1 => ?_) (fun h1 => ?_)
    · have h1n := (nI_leI (a := 4) (b := j) (by omega) (by omega)).mp h1
      refine g_iload_n C dX8_openValves_31 rfl 1 rfl ?_
      exact g_iret C hret hlk (e1.trans (congrArg (fun z => some (Value.int z)) ((if_pos h1n).trans rfl))) e2 dX8_openValves_32
    · have h1n := (not_congr (nI_leI (a := 4) (b := j) (by omega) (by omega))).mp h1
      refine g_iload_n C dX8_openValves_9 rfl 1 rfl ?_
      refine g_aload_n C dX8_openValves_10 rfl 0 rfl ?_
      refine g_iload_n C dX8_openValves_11 rfl 2 rfl ?_
      refine g_callV (rest := [.int v]) (st1 := [.int (f_X8_isOpen j ω), .int v]) C (c_X8_isOpen j (by omega) ω) (cwV 1 C.hts gX8_openValves_X8_isOpen rfl rfl rfl md_X8_isOpen ⟨Nat.le_of_ble_eq_true rfl, Nat.le_of_ble_eq_true rfl⟩) (by decide) (mk_11 (by decide)) rfl rfl rfl rfl rfl (Nat.le_of_ble_eq_true rfl) dX8_openValves_12 (Nat.zero_le _) (Nat.zero_le _) ?_
      refine g_if_eq (tgt := 22) C dX8_openValves_15 (by decide) (fun h2 => ?_) (fun h2 => ?_)
      · refine g_iconst (v := 0) C dX8_openValves_22 (by decide) ?_
        refine g_iadd (v := (v + 0)) C dX8_openValves_23 rfl ?_
        refine g_istore_n (lv' := [(1, .int (v + 0)), (0, .ref (ad 120)), (2, .int (nI (j)))]) C dX8_openValves_24 rfl (by decide) rfl ?_
        refine g_iinc (k := 2) (v := (nI (j + 1))) (lv' := [(2, .int (nI (j + 1))), (1, .int (v + 0)), (0, .ref (ad 120))]) C dX8_openValves_25 rfl (nI_1 (j)) (by decide) rfl ?_
        refine g_goto (tgt := 4) C dX8_openValves_28 (by decide) ?_
        refine gv_lv (lv' := [(0, .ref (ad 120)), (1, .int (v + 0)), (2, .int (nI (j + 1)))]) [2, 1, 0] rfl ?_
        exact ih (v + 0) (j + 1) ω (by omega) (by omega) _ _ (e1.trans (congrArg (fun z => some (Value.int z)) ((if_neg h1n).trans ((if_pos h2).trans rfl)))) e2
      · refine g_iconst (v := 1) C dX8_openValves_18 (by decide) ?_
        refine g_goto (tgt := 23) C dX8_openValves_19 (by decide) ?_
        refine g_iadd (v := (v + 1)) C dX8_openValves_23 rfl ?_
        refine g_istore_n (lv' := [(1, .int (v + 1)), (0, .ref (ad 120)), (2, .int (nI (j)))]) C dX8_openValves_24 rfl (by decide) rfl ?_
        refine g_iinc (k := 2) (v := (nI (j + 1))) (lv' := [(2, .int (nI (j + 1))), (1, .int (v + 1)), (0, .ref (ad 120))]) C dX8_openValves_25 rfl (nI_1 (j)) (by decide) rfl ?_
        refine g_goto (tgt := 4) C dX8_openValves_28 (by decide) ?_
        refine gv_lv (lv' := [(0, .ref (ad 120)), (1, .int (v + 1)), (2, .int (nI (j + 1)))]) [2, 1, 0] rfl ?_
        exact ih (v + 1) (j + 1) ω (by omega) (by omega) _ _ (e1.trans (congrArg (fun z => some (Value.int z)) ((if_neg h1n).trans ((if_neg h2).trans rfl)))) e2
def f_X8_openValves  (ω : Mem) : Int32 := (f_X8_openValves_4 5 0 0 ω)
set_option maxRecDepth 100000 in
set_option maxHeartbeats 4000000 in
theorem c_X8_openValves {l_ : Launch} {sa : Nat → Nat} {D : va_G} {X : Nat → ClassId} {ad : Nat → Nat}  (ω : Mem)  : CT l_ yX8_openValves wsX8_openValves rm_X8_openValves sa D (tyX X) 128 ad (mk X ad ω) [.ref (ad 120)] (some (.int (f_X8_openValves ω)) : Option Value) (mk X ad ω) := by
  refine ct_of [(0, .ref (ad 120))] (by decide +kernel) rfl rfl (Nat.le_of_ble_eq_true rfl) rfl ?_
  intro p_ e_ s_ m_ args_ below_ meth_ c_ C hret hlk hin
  have e1 : (some (.int (f_X8_openValves ω)) : Option Value) = (some (.int (f_X8_openValves ω)) : Option Value) := rfl
  have e2 : mk X ad ω = mk X ad ω := rfl
  refine g_iconst (v := 0) C dX8_openValves_0 (by decide) ?_
  refine g_istore_n (lv' := [(1, .int 0), (0, .ref (ad 120))]) C dX8_openValves_1 rfl (by decide) rfl ?_
  refine g_iconst (v := 0) C dX8_openValves_2 (by decide) ?_
  refine g_istore_n (lv' := [(2, .int 0), (1, .int 0), (0, .ref (ad 120))]) C dX8_openValves_3 rfl (by decide) rfl ?_
  refine gv_lv (lv' := [(0, .ref (ad 120)), (1, .int 0), (2, .int 0)]) [2, 1, 0] rfl ?_
  exact k_X8_openValves_4 (5)   C hret hlk 0 0 ω (by omega) (by omega) _ _ (e1.trans (congrArg (fun z => some (Value.int z)) rfl)) e2
abbrev rm_X8_clearIn : Room := { frames := 6, cells := 0, slots := 0, locals := 138 }
theorem md_X8_clearIn : yX8_clearIn.cls = RX8 ∧ yX8_clearIn.cls ≠ "java/lang/invoke/MethodHandle" ∧ yX8_clearIn.cls ≠ "java/lang/invoke/VarHandle" ∧ (parseMethodDescriptor yX8_clearIn.desc).map (fun d => d.parameters.length) = some 0 := by decide +kernel
def f_X8_clearIn_11 : Nat → Nat → Mem → Int32 × Mem
  | 0, _, ω => (0, ω)
  | fu + 1, j, ω => (if 500 < j then (if j ≤ 500 then ((nI (j)), (f_X8_takeBack ω)) else ((-5), (f_X8_takeBack ω))) else (if (f_X8_isClear ω) = 0 then (f_X8_clearIn_11 fu (j + 1) (f_X8_ticks ω)) else (if j ≤ 500 then ((nI (j)), (f_X8_takeBack ω)) else ((-5), (f_X8_takeBack ω)))))
set_option maxRecDepth 100000 in
set_option maxHeartbeats 4000000 in
theorem k_X8_clearIn_11 {l_ : Launch} {p_ : Program} {e_ : Env} {s_ : State} {m_ : MethodId} {args_ : Array Value} {below_ : List Frame} {meth_ : Method} {c_ : Code} {sa : Nat → Nat} {D : va_G} {X : Nat → ClassId} {ad : Nat → Nat} {G0 : Nat → va_E} (fu : Nat)  (C : GC p_ rm_X8_clearIn s_ m_ args_ meth_ c_ cX8_clearIn 2 wsX8_clearIn RX8 sa D (tyX X) (va_A (gw 128 ad G0) s_.heap.size)) (hret : meth_.sig.returnType = (some .int)) (hlk : meth_.locks = false) : ∀ (j : Nat) (ω : Mem) (hmi : MIn 10 ω) (hj : j ≤ 501) (hfuel : 501 < j + fu) (rv : Option Value) (G2 : Nat → va_E) (e1 : rv = some (.int (f_X8_clearIn_11 fu j ω).1)) (e2 : G2 = mk X ad (f_X8_clearIn_11 fu j ω).2), GV p_ l_ e_ rm_X8_clearIn s_ m_ args_ below_ meth_ c_ 0 0 (CQ below_ args_ s_ D 128 ad G0 rv G2) D (va_A (gw 128 ad G0) s_.heap.size) 2 128 ad (mk X ad ω) [(0, .ref (ad 120)), (1, .int (nI (j)))] 11 [] := by
  induction fu with
  | zero =>
    intro j ω hmi hj hfuel rv G2 e1 e2
    exact absurd hfuel (by omega)
  | succ fu ih =>
    intro j ω hmi hj hfuel rv G2 e1 e2
    refine g_iload_n C dX8_clearIn_11 rfl 1 rfl ?_
    refine g_sipush (v := 500) C dX8_clearIn_12 (by decide) ?_
    refine g_icmp_gt (tgt := 35) C dX8_clearIn_15 (by decide) (fun h1 => ?_) (fun h1 => ?_)
    · have h1n := (nI_ltI (a := 500) (b := j) (by omega) (by omega)).mp h1
      refine g_aload_n C dX8_clearIn_35 rfl 0 rfl ?_
      refine g_callV (rest := []) (st1 := []) C (c_X8_takeBack ω) (cwV 0 C.hts gX8_clearIn_X8_takeBack rfl rfl rfl md_X8_takeBack ⟨Nat.le_of_ble_eq_true rfl, Nat.le_of_ble_eq_true rfl⟩) (by decide) (mk_11 (by decide)) rfl rfl rfl rfl rfl (Nat.le_of_ble_eq_true rfl) dX8_clearIn_36 (Nat.zero_le _) (Nat.zero_le _) ?_
      refine g_iload_n C dX8_clearIn_39 rfl 1 rfl ?_
      refine g_sipush (v := 500) C dX8_clearIn_40 (by decide) ?_
      refine g_icmp_le (tgt := 51) C dX8_clearIn_43 (by decide) (fun h2 => ?_) (fun h2 => ?_)
      · have h2n := (nI_leI (a := j) (b := 500) (by omega) (by omega)).mp h2
        refine g_iload_n C dX8_clearIn_51 rfl 1 rfl ?_
        exact g_iret C hret hlk (e1.trans (pr1 (v := (nI (j))) (w := (f_X8_takeBack ω)) ((if_pos h1n).trans ((if_pos h2n).trans rfl)))) (e2.trans (pr2 (v := (nI (j))) (w := (f_X8_takeBack ω)) ((if_pos h1n).trans ((if_pos h2n).trans rfl)))) dX8_clearIn_52
      · have h2n := (not_congr (nI_leI (a := j) (b := 500) (by omega) (by omega))).mp h2
        refine g_bipush (v := (-5)) C dX8_clearIn_46 (by decide) ?_
        refine g_goto (tgt := 52) C dX8_clearIn_48 (by decide) ?_
        exact g_iret C hret hlk (e1.trans (pr1 (v := (-5)) (w := (f_X8_takeBack ω)) ((if_pos h1n).trans ((if_neg h2n).trans rfl)))) (e2.trans (pr2 (v := (-5)) (w := (f_X8_takeBack ω)) ((if_pos h1n).trans ((if_neg h2n).trans rfl)))) dX8_clearIn_52
    · have h1n := (not_congr (nI_ltI (a := 500) (b := j) (by omega) (by omega))).mp h1
      refine g_aload_n C dX8_clearIn_18 rfl 0 rfl ?_
      refine g_callV (rest := []) (st1 := [.int (f_X8_isClear ω)]) C (c_X8_isClear ω) (cwV 0 C.hts gX8_clearIn_X8_isClear rfl rfl rfl md_X8_isClear ⟨Nat.le_of_ble_eq_true rfl, Nat.le_of_ble_eq_true rfl⟩) (by decide) (mk_11 (by decide)) rfl rfl rfl rfl rfl (Nat.le_of_ble_eq_true rfl) dX8_clearIn_19 (Nat.zero_le _) (Nat.zero_le _) ?_
      refine g_if_ne (tgt := 35) C dX8_clearIn_22 (by decide) (fun h3 => ?_) (fun h3 => ?_)
      · refine g_aload_n C dX8_clearIn_35 rfl 0 rfl ?_
        refine g_callV (rest := []) (st1 := []) C (c_X8_takeBack ω) (cwV 0 C.hts gX8_clearIn_X8_takeBack rfl rfl rfl md_X8_takeBack ⟨Nat.le_of_ble_eq_true rfl, Nat.le_of_ble_eq_true rfl⟩) (by decide) (mk_11 (by decide)) rfl rfl rfl rfl rfl (Nat.le_of_ble_eq_true rfl) dX8_clearIn_36 (Nat.zero_le _) (Nat.zero_le _) ?_
        refine g_iload_n C dX8_clearIn_39 rfl 1 rfl ?_
        refine g_sipush (v := 500) C dX8_clearIn_40 (by decide) ?_
        refine g_icmp_le (tgt := 51) C dX8_clearIn_43 (by decide) (fun h4 => ?_) (fun h4 => ?_)
        · have h4n := (nI_leI (a := j) (b := 500) (by omega) (by omega)).mp h4
          refine g_iload_n C dX8_clearIn_51 rfl 1 rfl ?_
          exact g_iret C hret hlk (e1.trans (pr1 (v := (nI (j))) (w := (f_X8_takeBack ω)) ((if_neg h1n).trans ((if_neg h3).trans ((if_pos h4n).trans rfl))))) (e2.trans (pr2 (v := (nI (j))) (w := (f_X8_takeBack ω)) ((if_neg h1n).trans ((if_neg h3).trans ((if_pos h4n).trans rfl))))) dX8_clearIn_52
        · have h4n := (not_congr (nI_leI (a := j) (b := 500) (by omega) (by omega))).mp h4
          refine g_bipush (v := (-5)) C dX8_clearIn_46 (by decide) ?_
          refine g_goto (tgt := 52) C dX8_clearIn_48 (by decide) ?_
          exact g_iret C hret hlk (e1.trans (pr1 (v := (-5)) (w := (f_X8_takeBack ω)) ((if_neg h1n).trans ((if_neg h3).trans ((if_neg h4n).trans rfl))))) (e2.trans (pr2 (v := (-5)) (w := (f_X8_takeBack ω)) ((if_neg h1n).trans ((if_neg h3).trans ((if_neg h4n).trans rfl))))) dX8_clearIn_52
      · refine g_aload_n C dX8_clearIn_25 rfl 0 rfl ?_
        refine g_callV (rest := []) (st1 := []) C (c_X8_ticks ω hmi) (cwV 0 C.hts gX8_clearIn_X8_ticks rfl rfl rfl md_X8_ticks ⟨Nat.le_of_ble_eq_true rfl, Nat.le_of_ble_eq_true rfl⟩) (by decide) (mk_11 (by decide)) rfl rfl rfl rfl rfl (Nat.le_of_ble_eq_true rfl) dX8_clearIn_26 (Nat.zero_le _) (Nat.zero_le _) ?_
        refine g_iinc (k := 1) (v := (nI (j + 1))) (lv' := [(1, .int (nI (j + 1))), (0, .ref (ad 120))]) C dX8_clearIn_29 rfl (nI_1 (j)) (by decide) rfl ?_
        refine g_goto (tgt := 11) C dX8_clearIn_32 (by decide) ?_
        refine gv_lv (lv' := [(0, .ref (ad 120)), (1, .int (nI (j + 1)))]) [1, 0] rfl ?_
        exact ih (j + 1) (f_X8_ticks ω) (mi_X8_ticks ω hmi) (by omega) (by omega) _ _ (e1.trans (congrArg (fun z : Int32 × Mem => some (Value.int z.1)) ((if_neg h1n).trans ((if_pos h3).trans rfl)))) (e2.trans (congrArg (fun z : Int32 × Mem => mk X ad z.2) ((if_neg h1n).trans ((if_pos h3).trans rfl))))
def f_X8_clearIn  (ω : Mem) : Int32 × Mem := (f_X8_clearIn_11 502 0 (f_X8_putAside (st ω 120 0 0)))
set_option maxRecDepth 100000 in
set_option maxHeartbeats 4000000 in
theorem c_X8_clearIn {l_ : Launch} {sa : Nat → Nat} {D : va_G} {X : Nat → ClassId} {ad : Nat → Nat}  (ω : Mem) (hmi : MIn 10 ω) : CT l_ yX8_clearIn wsX8_clearIn rm_X8_clearIn sa D (tyX X) 128 ad (mk X ad ω) [.ref (ad 120)] (some (.int (f_X8_clearIn ω).1) : Option Value) (mk X ad (f_X8_clearIn ω).2) := by
  refine ct_of [(0, .ref (ad 120))] (by decide +kernel) rfl rfl (Nat.le_of_ble_eq_true rfl) rfl ?_
  intro p_ e_ s_ m_ args_ below_ meth_ c_ C hret hlk hin
  have e1 : (some (.int (f_X8_clearIn ω).1) : Option Value) = (some (.int (f_X8_clearIn ω).1) : Option Value) := rfl
  have e2 : mk X ad (f_X8_clearIn ω).2 = mk X ad (f_X8_clearIn ω).2 := rfl
  have iX8 : ∀ w ∈ u_ws RX8 TX8 14, w ∈ wsX8_clearIn := by decide +kernel
  have L31 : Cond.fieldLink RX8 31 (TX8 0).1 (TX8 0).2.1 (TX8 0).2.2.1 ∈ wsX8_clearIn := by decide +kernel
  refine g_aload_n C dX8_clearIn_0 rfl 0 rfl ?_
  refine g_iconst (v := 0) C dX8_clearIn_1 (by decide) ?_
  refine g_put C iX8 tyX8 tyX8_ok nmX8 (by decide) (mk_11 (by decide)) rfl 0 (by decide) L31 rfl rfl rfl (Nat.le_of_ble_eq_true rfl) dX8_clearIn_2 ?_
  refine gv_eqG (mkp_11_0 (by decide)) ?_
  refine g_aload_n C dX8_clearIn_5 rfl 0 rfl ?_
  refine g_callV (rest := []) (st1 := []) C (c_X8_putAside (st ω 120 0 0) (MIn_f hmi (by decide))) (cwV 0 C.hts gX8_clearIn_X8_putAside rfl rfl rfl md_X8_putAside ⟨Nat.le_of_ble_eq_true rfl, Nat.le_of_ble_eq_true rfl⟩) (by decide) (mk_11 (by decide)) rfl rfl rfl rfl rfl (Nat.le_of_ble_eq_true rfl) dX8_clearIn_6 (Nat.zero_le _) (Nat.zero_le _) ?_
  refine g_iconst (v := 0) C dX8_clearIn_9 (by decide) ?_
  refine g_istore_n (lv' := [(1, .int 0), (0, .ref (ad 120))]) C dX8_clearIn_10 rfl (by decide) rfl ?_
  refine gv_lv (lv' := [(0, .ref (ad 120)), (1, .int 0)]) [1, 0] rfl ?_
  exact k_X8_clearIn_11 (502)   C hret hlk 0 (f_X8_putAside (st ω 120 0 0)) (mi_X8_putAside (st ω 120 0 0) (MIn_f hmi (by decide))) (by omega) (by omega) _ _ (e1.trans (congrArg (fun z : Int32 × Mem => some (Value.int z.1)) rfl)) (e2.trans (congrArg (fun z : Int32 × Mem => mk X ad z.2) rfl))
abbrev rm_X8_blownIn : Room := { frames := 3, cells := 0, slots := 0, locals := 65 }
theorem md_X8_blownIn : yX8_blownIn.cls = RX8 ∧ yX8_blownIn.cls ≠ "java/lang/invoke/MethodHandle" ∧ yX8_blownIn.cls ≠ "java/lang/invoke/VarHandle" ∧ (parseMethodDescriptor yX8_blownIn.desc).map (fun d => d.parameters.length) = some 1 := by decide +kernel
def f_X8_blownIn_28 : Nat → Nat → Nat → Mem → Int32 × Mem
  | 0, _, _, ω => (0, ω)
  | fu + 1, k, j, ω => (if 500 < j then ((-5), ω) else (if (f_X8_draftAt ((ω 121 4) + (nI (j))) ω) ≤ (f_X8_strength k ω) then (f_X8_blownIn_28 fu k (j + 1) ω) else ((nI (j)), ω)))
set_option maxRecDepth 100000 in
set_option maxHeartbeats 4000000 in
theorem k_X8_blownIn_28 {l_ : Launch} {p_ : Program} {e_ : Env} {s_ : State} {m_ : MethodId} {args_ : Array Value} {below_ : List Frame} {meth_ : Method} {c_ : Code} {sa : Nat → Nat} {D : va_G} {X : Nat → ClassId} {ad : Nat → Nat} {G0 : Nat → va_E} (fu : Nat) (k : Nat) (hk : k < 4) (C : GC p_ rm_X8_blownIn s_ m_ args_ meth_ c_ cX8_blownIn 3 wsX8_blownIn RX8 sa D (tyX X) (va_A (gw 128 ad G0) s_.heap.size)) (hret : meth_.sig.returnType = (some .int)) (hlk : meth_.locks = false) : ∀ (j : Nat) (ω : Mem) (hmi : MIn 10 ω) (hj : j ≤ 501) (hfuel : 501 < j + fu) (rv : Option Value) (G2 : Nat → va_E) (e1 : rv = some (.int (f_X8_blownIn_28 fu k j ω).1)) (e2 : G2 = mk X ad (f_X8_blownIn_28 fu k j ω).2), GV p_ l_ e_ rm_X8_blownIn s_ m_ args_ below_ meth_ c_ 0 0 (CQ below_ args_ s_ D 128 ad G0 rv G2) D (va_A (gw 128 ad G0) s_.heap.size) 3 128 ad (mk X ad ω) [(0, .ref (ad 120)), (1, .int (nI (k))), (2, .int (nI (j)))] 28 [] := by
  have iX8 : ∀ w ∈ u_ws RX8 TX8 14, w ∈ wsX8_blownIn := by decide +kernel
  have L7 : Cond.fieldLink RX8 7 (TX8 1).1 (TX8 1).2.1 (TX8 1).2.2.1 ∈ wsX8_blownIn := by decide +kernel
  induction fu with
  | zero =>
    intro j ω hmi hj hfuel rv G2 e1 e2
    exact absurd hfuel (by omega)
  | succ fu ih =>
    intro j ω hmi hj hfuel rv G2 e1 e2
    refine g_iload_n C dX8_blownIn_28 rfl 2 rfl ?_
    refine g_sipush (v := 500) C dX8_blownIn_29 (by decide) ?_
    refine g_icmp_gt (tgt := 63) C dX8_blownIn_32 (by decide) (fun h1 => ?_) (fun h1 => ?_)
    · have h1n := (nI_ltI (a := 500) (b := j) (by omega) (by omega)).mp h1
      refine g_bipush (v := (-5)) C dX8_blownIn_63 (by decide) ?_
      exact g_iret C hret hlk (e1.trans (pr1 (v := (-5)) (w := ω) ((if_pos h1n).trans rfl))) (e2.trans (pr2 (v := (-5)) (w := ω) ((if_pos h1n).trans rfl))) dX8_blownIn_65
    · have h1n := (not_congr (nI_ltI (a := 500) (b := j) (by omega) (by omega))).mp h1
      refine g_aload_n C dX8_blownIn_35 rfl 0 rfl ?_
      refine g_aload_n C dX8_blownIn_36 rfl 0 rfl ?_
      refine g_get (v := .ref (ad 121)) C iX8 (by decide) (mk_11 (by decide)) rfl 1 (by decide) L7 rfl dX8_blownIn_37 ?_
      refine g_iconst (v := 4) C dX8_blownIn_40 (by decide) ?_
      refine g_iald (k := 4) C 0 (by decide) (mk_12n (N := 108) (by decide) (by decide)) rfl (by unfold vp_in; decide) rfl dX8_blownIn_41 ?_
      refine g_iload_n C dX8_blownIn_42 rfl 2 rfl ?_
      refine g_iadd (v := ((ω 121 4) + (nI (j)))) C dX8_blownIn_43 rfl ?_
      refine g_callV (rest := []) (st1 := [.int (f_X8_draftAt ((ω 121 4) + (nI (j))) ω)]) C (c_X8_draftAt ((ω 121 4) + (nI (j))) ω hmi) (cwV 1 C.hts gX8_blownIn_X8_draftAt rfl rfl rfl md_X8_draftAt ⟨Nat.le_of_ble_eq_true rfl, Nat.le_of_ble_eq_true rfl⟩) (by decide) (mk_11 (by decide)) rfl rfl rfl rfl rfl (Nat.le_of_ble_eq_true rfl) dX8_blownIn_44 (Nat.zero_le _) (Nat.zero_le _) ?_
      refine g_aload_n C dX8_blownIn_47 rfl 0 rfl ?_
      refine g_iload_n C dX8_blownIn_48 rfl 1 rfl ?_
      refine g_callV (rest := [.int (f_X8_draftAt ((ω 121 4) + (nI (j))) ω)]) (st1 := [.int (f_X8_strength k ω), .int (f_X8_draftAt ((ω 121 4) + (nI (j))) ω)]) C (c_X8_strength k (by omega) ω) (cwV 1 C.hts gX8_blownIn_X8_strength rfl rfl rfl md_X8_strength ⟨Nat.le_of_ble_eq_true rfl, Nat.le_of_ble_eq_true rfl⟩) (by decide) (mk_11 (by decide)) rfl rfl rfl rfl rfl (Nat.le_of_ble_eq_true rfl) dX8_blownIn_49 (Nat.zero_le _) (Nat.zero_le _) ?_
      refine g_icmp_le (tgt := 57) C dX8_blownIn_52 (by decide) (fun h2 => ?_) (fun h2 => ?_)
      · refine g_iinc (k := 2) (v := (nI (j + 1))) (lv' := [(2, .int (nI (j + 1))), (0, .ref (ad 120)), (1, .int (nI (k)))]) C dX8_blownIn_57 rfl (nI_1 (j)) (by decide) rfl ?_
        refine g_goto (tgt := 28) C dX8_blownIn_60 (by decide) ?_
        refine gv_lv (lv' := [(0, .ref (ad 120)), (1, .int (nI (k))), (2, .int (nI (j + 1)))]) [1, 2, 0] rfl ?_
        exact ih (j + 1) ω hmi (by omega) (by omega) _ _ (e1.trans (congrArg (fun z : Int32 × Mem => some (Value.int z.1)) ((if_neg h1n).trans ((if_pos h2).trans rfl)))) (e2.trans (congrArg (fun z : Int32 × Mem => mk X ad z.2) ((if_neg h1n).trans ((if_pos h2).trans rfl))))
      · refine g_iload_n C dX8_blownIn_55 rfl 2 rfl ?_
        exact g_iret C hret hlk (e1.trans (pr1 (v := (nI (j))) (w := ω) ((if_neg h1n).trans ((if_neg h2).trans rfl)))) (e2.trans (pr2 (v := (nI (j))) (w := ω) ((if_neg h1n).trans ((if_neg h2).trans rfl)))) dX8_blownIn_56
def f_X8_blownIn_5 (k : Nat) (ω : Mem) : Int32 × Mem := (if (f_X8_isBurner (nI (k)) ω) = 0 then ((-1), ω) else (if (f_X8_get k 1 ω) = 0 then ((-4), ω) else (f_X8_blownIn_28 502 k 0 ω)))
set_option maxRecDepth 100000 in
set_option maxHeartbeats 4000000 in
theorem k_X8_blownIn_5 {l_ : Launch} {p_ : Program} {e_ : Env} {s_ : State} {m_ : MethodId} {args_ : Array Value} {below_ : List Frame} {meth_ : Method} {c_ : Code} {sa : Nat → Nat} {D : va_G} {X : Nat → ClassId} {ad : Nat → Nat} {G0 : Nat → va_E} (k : Nat) (hk : k < 4) (C : GC p_ rm_X8_blownIn s_ m_ args_ meth_ c_ cX8_blownIn 3 wsX8_blownIn RX8 sa D (tyX X) (va_A (gw 128 ad G0) s_.heap.size)) (hret : meth_.sig.returnType = (some .int)) (hlk : meth_.locks = false) : ∀  (ω : Mem) (hmi : MIn 10 ω) (rv : Option Value) (G2 : Nat → va_E) (e1 : rv = some (.int (f_X8_blownIn_5 k ω).1)) (e2 : G2 = mk X ad (f_X8_blownIn_5 k ω).2), GV p_ l_ e_ rm_X8_blownIn s_ m_ args_ below_ meth_ c_ 0 0 (CQ below_ args_ s_ D 128 ad G0 rv G2) D (va_A (gw 128 ad G0) s_.heap.size) 3 128 ad (mk X ad ω) [(0, .ref (ad 120)), (1, .int (nI (k)))] 5 [] := by
  intro ω hmi rv G2 e1 e2
  refine g_iload_n C dX8_blownIn_5 rfl 1 rfl ?_
  refine g_callS (rest := []) (st1 := [.int (f_X8_isBurner (nI (k)) ω)]) C (c_X8_isBurner (nI (k)) ω) (va_cwS 1 C.hts gX8_blownIn_X8_isBurner rfl rfl rfl md_X8_isBurner.2 ⟨Nat.le_of_ble_eq_true rfl, Nat.le_of_ble_eq_true rfl⟩) rfl rfl rfl (Nat.le_of_ble_eq_true rfl) dX8_blownIn_6 (Nat.zero_le _) (Nat.zero_le _) ?_
  refine g_if_ne (tgt := 14) C dX8_blownIn_9 (by decide) (fun h1 => ?_) (fun h1 => ?_)
  · refine g_aload_n C dX8_blownIn_14 rfl 0 rfl ?_
    refine g_iload_n C dX8_blownIn_15 rfl 1 rfl ?_
    refine g_iconst (v := 1) C dX8_blownIn_16 (by decide) ?_
    refine g_callV (rest := []) (st1 := [.int (f_X8_get k 1 ω)]) C (c_X8_get k 1 (by omega) (by omega) ω) (cwV 2 C.hts gX8_blownIn_X8_get rfl rfl rfl md_X8_get ⟨Nat.le_of_ble_eq_true rfl, Nat.le_of_ble_eq_true rfl⟩) (by decide) (mk_11 (by decide)) rfl rfl rfl rfl rfl (Nat.le_of_ble_eq_true rfl) dX8_blownIn_17 (Nat.zero_le _) (Nat.zero_le _) ?_
    refine g_if_ne (tgt := 26) C dX8_blownIn_20 (by decide) (fun h2 => ?_) (fun h2 => ?_)
    · refine g_iconst (v := 0) C dX8_blownIn_26 (by decide) ?_
      refine g_istore_n (lv' := [(2, .int 0), (0, .ref (ad 120)), (1, .int (nI (k)))]) C dX8_blownIn_27 rfl (by decide) rfl ?_
      refine gv_lv (lv' := [(0, .ref (ad 120)), (1, .int (nI (k))), (2, .int 0)]) [1, 2, 0] rfl ?_
      exact k_X8_blownIn_28 (502) k hk C hret hlk 0 ω hmi (by omega) (by omega) _ _ (e1.trans (congrArg (fun z : Int32 × Mem => some (Value.int z.1)) ((if_neg h1).trans ((if_neg h2).trans rfl)))) (e2.trans (congrArg (fun z : Int32 × Mem => mk X ad z.2) ((if_neg h1).trans ((if_neg h2).trans rfl))))
    · refine g_bipush (v := (-4)) C dX8_blownIn_23 (by decide) ?_
      exact g_iret C hret hlk (e1.trans (pr1 (v := (-4)) (w := ω) ((if_neg h1).trans ((if_pos h2).trans rfl)))) (e2.trans (pr2 (v := (-4)) (w := ω) ((if_neg h1).trans ((if_pos h2).trans rfl)))) dX8_blownIn_25
  · refine g_iconst (v := (-1)) C dX8_blownIn_12 (by decide) ?_
    exact g_iret C hret hlk (e1.trans (pr1 (v := (-1)) (w := ω) ((if_pos h1).trans rfl))) (e2.trans (pr2 (v := (-1)) (w := ω) ((if_pos h1).trans rfl))) dX8_blownIn_13
def f_X8_blownIn (k : Nat) (ω : Mem) : Int32 × Mem := (f_X8_blownIn_5 k (st ω 120 0 0))
set_option maxRecDepth 100000 in
set_option maxHeartbeats 4000000 in
theorem c_X8_blownIn {l_ : Launch} {sa : Nat → Nat} {D : va_G} {X : Nat → ClassId} {ad : Nat → Nat} (k : Nat) (hk : k < 4) (ω : Mem) (hmi : MIn 10 ω) : CT l_ yX8_blownIn wsX8_blownIn rm_X8_blownIn sa D (tyX X) 128 ad (mk X ad ω) [.ref (ad 120), .int (nI (k))] (some (.int (f_X8_blownIn k ω).1) : Option Value) (mk X ad (f_X8_blownIn k ω).2) := by
  refine ct_of [(0, .ref (ad 120)), (1, .int (nI (k)))] (by decide +kernel) rfl rfl (Nat.le_of_ble_eq_true rfl) rfl ?_
  intro p_ e_ s_ m_ args_ below_ meth_ c_ C hret hlk hin
  have e1 : (some (.int (f_X8_blownIn k ω).1) : Option Value) = (some (.int (f_X8_blownIn k ω).1) : Option Value) := rfl
  have e2 : mk X ad (f_X8_blownIn k ω).2 = mk X ad (f_X8_blownIn k ω).2 := rfl
  have iX8 : ∀ w ∈ u_ws RX8 TX8 14, w ∈ wsX8_blownIn := by decide +kernel
  have L31 : Cond.fieldLink RX8 31 (TX8 0).1 (TX8 0).2.1 (TX8 0).2.2.1 ∈ wsX8_blownIn := by decide +kernel
  refine g_aload_n C dX8_blownIn_0 rfl 0 rfl ?_
  refine g_iconst (v := 0) C dX8_blownIn_1 (by decide) ?_
  refine g_put C iX8 tyX8 tyX8_ok nmX8 (by decide) (mk_11 (by decide)) rfl 0 (by decide) L31 rfl rfl rfl (Nat.le_of_ble_eq_true rfl) dX8_blownIn_2 ?_
  refine gv_eqG (mkp_11_0 (by decide)) ?_
  exact k_X8_blownIn_5 k hk C hret hlk  (st ω 120 0 0) (MIn_f hmi (by decide)) _ _ (e1.trans (congrArg (fun z : Int32 × Mem => some (Value.int z.1)) rfl)) (e2.trans (congrArg (fun z : Int32 × Mem => mk X ad z.2) rfl))
def f_X8_blownInB (x : Int32) (ω : Mem) : Int32 × Mem := ((-1), (st ω 120 0 0))
set_option maxRecDepth 100000 in
set_option maxHeartbeats 4000000 in
theorem c_X8_blownInB {l_ : Launch} {sa : Nat → Nat} {D : va_G} {X : Nat → ClassId} {ad : Nat → Nat} (x : Int32) (hbad : x < 0 ∨ 4 ≤ x) (ω : Mem)  : CT l_ yX8_blownIn wsX8_blownIn rm_X8_blownIn sa D (tyX X) 128 ad (mk X ad ω) [.ref (ad 120), .int x] (some (.int (f_X8_blownInB x ω).1) : Option Value) (mk X ad (f_X8_blownInB x ω).2) := by
  refine ct_of [(0, .ref (ad 120)), (1, .int x)] (by decide +kernel) rfl rfl (Nat.le_of_ble_eq_true rfl) rfl ?_
  intro p_ e_ s_ m_ args_ below_ meth_ c_ C hret hlk hin
  have e1 : (some (.int (f_X8_blownInB x ω).1) : Option Value) = (some (.int (f_X8_blownInB x ω).1) : Option Value) := rfl
  have e2 : mk X ad (f_X8_blownInB x ω).2 = mk X ad (f_X8_blownInB x ω).2 := rfl
  have iX8 : ∀ w ∈ u_ws RX8 TX8 14, w ∈ wsX8_blownIn := by decide +kernel
  have L31 : Cond.fieldLink RX8 31 (TX8 0).1 (TX8 0).2.1 (TX8 0).2.2.1 ∈ wsX8_blownIn := by decide +kernel
  refine g_aload_n C dX8_blownIn_0 rfl 0 rfl ?_
  refine g_iconst (v := 0) C dX8_blownIn_1 (by decide) ?_
  refine g_put C iX8 tyX8 tyX8_ok nmX8 (by decide) (mk_11 (by decide)) rfl 0 (by decide) L31 rfl rfl rfl (Nat.le_of_ble_eq_true rfl) dX8_blownIn_2 ?_
  refine gv_eqG (mkp_11_0 (by decide)) ?_
  refine g_iload_n C dX8_blownIn_5 rfl 1 rfl ?_
  refine g_callS (rest := []) (st1 := [.int (f_X8_isBurner x (st ω 120 0 0))]) C (c_X8_isBurner x (st ω 120 0 0)) (va_cwS 1 C.hts gX8_blownIn_X8_isBurner rfl rfl rfl md_X8_isBurner.2 ⟨Nat.le_of_ble_eq_true rfl, Nat.le_of_ble_eq_true rfl⟩) rfl rfl rfl (Nat.le_of_ble_eq_true rfl) dX8_blownIn_6 (Nat.zero_le _) (Nat.zero_le _) ?_
  refine g_if_ne (tgt := 14) C dX8_blownIn_9 (by decide) (fun z => absurd (isBurner_bad hbad) z) (fun _ => ?_)
  refine g_iconst (v := (-1)) C dX8_blownIn_12 (by decide) ?_
  exact g_iret C hret hlk (e1.trans (pr1 (v := (-1)) (w := (st ω 120 0 0)) rfl)) (e2.trans (pr2 (v := (-1)) (w := (st ω 120 0 0)) rfl)) dX8_blownIn_13
abbrev rm_X8_entry : Room := { frames := 1, cells := 0, slots := 0, locals := 22 }
theorem md_X8_entry : yX8_entry.cls = RX8 ∧ yX8_entry.cls ≠ "java/lang/invoke/MethodHandle" ∧ yX8_entry.cls ≠ "java/lang/invoke/VarHandle" ∧ (parseMethodDescriptor yX8_entry.desc).map (fun d => d.parameters.length) = some 2 := by decide +kernel
def f_X8_entry_5 (x : Int32) (w : Int32) (ω : Mem) : Int32 × Mem := (if x < 0 then ((-2), ω) else (if (f_X8_in w 0 1 ω) = 0 then ((-2), ω) else (if (ω 121 43) ≤ x then ((-5), ω) else ((ω 121 (44 + 2 * x.toNatClampNeg + w.toNatClampNeg)), ω))))
set_option maxRecDepth 100000 in
set_option maxHeartbeats 4000000 in
theorem k_X8_entry_5 {l_ : Launch} {p_ : Program} {e_ : Env} {s_ : State} {m_ : MethodId} {args_ : Array Value} {below_ : List Frame} {meth_ : Method} {c_ : Code} {sa : Nat → Nat} {D : va_G} {X : Nat → ClassId} {ad : Nat → Nat} {G0 : Nat → va_E} (x : Int32) (w : Int32) (C : GC p_ rm_X8_entry s_ m_ args_ meth_ c_ cX8_entry 3 wsX8_entry RX8 sa D (tyX X) (va_A (gw 128 ad G0) s_.heap.size)) (hret : meth_.sig.returnType = (some .int)) (hlk : meth_.locks = false) : ∀  (ω : Mem) (hmi : MIn 10 ω) (rv : Option Value) (G2 : Nat → va_E) (e1 : rv = some (.int (f_X8_entry_5 x w ω).1)) (e2 : G2 = mk X ad (f_X8_entry_5 x w ω).2), GV p_ l_ e_ rm_X8_entry s_ m_ args_ below_ meth_ c_ 0 0 (CQ below_ args_ s_ D 128 ad G0 rv G2) D (va_A (gw 128 ad G0) s_.heap.size) 3 128 ad (mk X ad ω) [(0, .ref (ad 120)), (1, .int x), (2, .int w)] 5 [] := by
  have iX8 : ∀ w ∈ u_ws RX8 TX8 14, w ∈ wsX8_entry := by decide +kernel
  have L7 : Cond.fieldLink RX8 7 (TX8 1).1 (TX8 1).2.1 (TX8 1).2.2.1 ∈ wsX8_entry := by decide +kernel
  intro ω hmi rv G2 e1 e2
  refine g_iload_n C dX8_entry_5 rfl 1 rfl ?_
  refine g_if_lt (tgt := 18) C dX8_entry_6 (by decide) (fun h1 => ?_) (fun h1 => ?_)
  · refine g_bipush (v := (-2)) C dX8_entry_18 (by decide) ?_
    exact g_iret C hret hlk (e1.trans (pr1 (v := (-2)) (w := ω) ((if_pos h1).trans rfl))) (e2.trans (pr2 (v := (-2)) (w := ω) ((if_pos h1).trans rfl))) dX8_entry_20
  · refine g_iload_n C dX8_entry_9 rfl 2 rfl ?_
    refine g_iconst (v := 0) C dX8_entry_10 (by decide) ?_
    refine g_iconst (v := 1) C dX8_entry_11 (by decide) ?_
    refine g_callS (rest := []) (st1 := [.int (f_X8_in w 0 1 ω)]) C (c_X8_in w 0 1 ω) (va_cwS 3 C.hts gX8_entry_X8_in rfl rfl rfl md_X8_in.2 ⟨Nat.le_of_ble_eq_true rfl, Nat.le_of_ble_eq_true rfl⟩) rfl rfl rfl (Nat.le_of_ble_eq_true rfl) dX8_entry_12 (Nat.zero_le _) (Nat.zero_le _) ?_
    refine g_if_ne (tgt := 21) C dX8_entry_15 (by decide) (fun h2 => ?_) (fun h2 => ?_)
    · refine g_iload_n C dX8_entry_21 rfl 1 rfl ?_
      refine g_aload_n C dX8_entry_22 rfl 0 rfl ?_
      refine g_get (v := .ref (ad 121)) C iX8 (by decide) (mk_11 (by decide)) rfl 1 (by decide) L7 rfl dX8_entry_23 ?_
      refine g_bipush (v := 43) C dX8_entry_26 (by decide) ?_
      refine g_iald (k := 43) C 0 (by decide) (mk_12n (N := 108) (by decide) (by decide)) rfl (by unfold vp_in; decide) rfl dX8_entry_28 ?_
      refine g_icmp_ge (tgt := 48) C dX8_entry_29 (by decide) (fun h3 => ?_) (fun h3 => ?_)
      · refine g_bipush (v := (-5)) C dX8_entry_48 (by decide) ?_
        exact g_iret C hret hlk (e1.trans (pr1 (v := (-5)) (w := ω) ((if_neg h1).trans ((if_neg h2).trans ((if_pos h3).trans rfl))))) (e2.trans (pr2 (v := (-5)) (w := ω) ((if_neg h1).trans ((if_neg h2).trans ((if_pos h3).trans rfl))))) dX8_entry_50
      · refine g_aload_n C dX8_entry_32 rfl 0 rfl ?_
        refine g_get (v := .ref (ad 121)) C iX8 (by decide) (mk_11 (by decide)) rfl 1 (by decide) L7 rfl dX8_entry_33 ?_
        refine g_bipush (v := 44) C dX8_entry_36 (by decide) ?_
        refine g_iconst (v := 2) C dX8_entry_38 (by decide) ?_
        refine g_iload_n C dX8_entry_39 rfl 1 rfl ?_
        have hz4 : x.toNatClampNeg ≤ _ := (rg_lt (n := 12) h1 (lt_of_nle h3) hmi.2.1 (by decide)).2
        refine gv_eqS (st' := [.int (nI (x.toNatClampNeg)), .int 2, .int 44, .ref (ad 121)]) (congrArg (fun z : Int32 => ([Value.int z, .int 2, .int 44, .ref (ad 121)] : List Value)) (rg_lt (n := 12) h1 (lt_of_nle h3) hmi.2.1 (by decide)).1) ?_
        refine g_imul (v := (nI (2 * x.toNatClampNeg))) C dX8_entry_40 (pk_mul (2) (x.toNatClampNeg)) ?_
        refine g_iadd (v := (nI (44 + 2 * x.toNatClampNeg))) C dX8_entry_41 (nI_add (44) (2 * x.toNatClampNeg)) ?_
        refine g_iload_n C dX8_entry_42 rfl 2 rfl ?_
        have hz5 : w.toNatClampNeg ≤ _ := (in_rg (n := 1) rfl h2).2
        refine gv_eqS (st' := [.int (nI (w.toNatClampNeg)), .int (nI (44 + 2 * x.toNatClampNeg)), .ref (ad 121)]) (congrArg (fun z : Int32 => ([Value.int z, .int (nI (44 + 2 * x.toNatClampNeg)), .ref (ad 121)] : List Value)) (in_rg (n := 1) rfl h2).1) ?_
        refine g_iadd (v := (nI (44 + 2 * x.toNatClampNeg + w.toNatClampNeg))) C dX8_entry_43 (nI_add (44 + 2 * x.toNatClampNeg) (w.toNatClampNeg)) ?_
        refine g_iald (k := 44 + 2 * x.toNatClampNeg + w.toNatClampNeg) C 0 (by decide) (mk_12n (N := 108) (by decide) (by decide)) rfl (vp_in_nI (n := 44 + 2 * x.toNatClampNeg + w.toNatClampNeg) (by omega) (by decide)) (nI_clamp (n := 44 + 2 * x.toNatClampNeg + w.toNatClampNeg) (by omega)) dX8_entry_44 ?_
        refine g_goto (tgt := 50) C dX8_entry_45 (by decide) ?_
        exact g_iret C hret hlk (e1.trans (pr1 (v := (ω 121 (44 + 2 * x.toNatClampNeg + w.toNatClampNeg))) (w := ω) ((if_neg h1).trans ((if_neg h2).trans ((if_neg h3).trans rfl))))) (e2.trans (pr2 (v := (ω 121 (44 + 2 * x.toNatClampNeg + w.toNatClampNeg))) (w := ω) ((if_neg h1).trans ((if_neg h2).trans ((if_neg h3).trans rfl))))) dX8_entry_50
    · refine g_bipush (v := (-2)) C dX8_entry_18 (by decide) ?_
      exact g_iret C hret hlk (e1.trans (pr1 (v := (-2)) (w := ω) ((if_neg h1).trans ((if_pos h2).trans rfl)))) (e2.trans (pr2 (v := (-2)) (w := ω) ((if_neg h1).trans ((if_pos h2).trans rfl)))) dX8_entry_20
def f_X8_entry (x : Int32) (w : Int32) (ω : Mem) : Int32 × Mem := (f_X8_entry_5 x w (st ω 120 0 0))
set_option maxRecDepth 100000 in
set_option maxHeartbeats 4000000 in
theorem c_X8_entry {l_ : Launch} {sa : Nat → Nat} {D : va_G} {X : Nat → ClassId} {ad : Nat → Nat} (x : Int32) (w : Int32) (ω : Mem) (hmi : MIn 10 ω) : CT l_ yX8_entry wsX8_entry rm_X8_entry sa D (tyX X) 128 ad (mk X ad ω) [.ref (ad 120), .int x, .int w] (some (.int (f_X8_entry x w ω).1) : Option Value) (mk X ad (f_X8_entry x w ω).2) := by
  refine ct_of [(0, .ref (ad 120)), (1, .int x), (2, .int w)] (by decide +kernel) rfl rfl (Nat.le_of_ble_eq_true rfl) rfl ?_
  intro p_ e_ s_ m_ args_ below_ meth_ c_ C hret hlk hin
  have e1 : (some (.int (f_X8_entry x w ω).1) : Option Value) = (some (.int (f_X8_entry x w ω).1) : Option Value) := rfl
  have e2 : mk X ad (f_X8_entry x w ω).2 = mk X ad (f_X8_entry x w ω).2 := rfl
  have iX8 : ∀ w ∈ u_ws RX8 TX8 14, w ∈ wsX8_entry := by decide +kernel
  have L31 : Cond.fieldLink RX8 31 (TX8 0).1 (TX8 0).2.1 (TX8 0).2.2.1 ∈ wsX8_entry := by decide +kernel
  refine g_aload_n C dX8_entry_0 rfl 0 rfl ?_
  refine g_iconst (v := 0) C dX8_entry_1 (by decide) ?_
  refine g_put C iX8 tyX8 tyX8_ok nmX8 (by decide) (mk_11 (by decide)) rfl 0 (by decide) L31 rfl rfl rfl (Nat.le_of_ble_eq_true rfl) dX8_entry_2 ?_
  refine gv_eqG (mkp_11_0 (by decide)) ?_
  exact k_X8_entry_5 x w  C hret hlk  (st ω 120 0 0) (MIn_f hmi (by decide)) _ _ (e1.trans (congrArg (fun z : Int32 × Mem => some (Value.int z.1)) rfl)) (e2.trans (congrArg (fun z : Int32 × Mem => mk X ad z.2) rfl))
abbrev rm_X8_event : Room := { frames := 1, cells := 0, slots := 0, locals := 22 }
theorem md_X8_event : yX8_event.cls = RX8 ∧ yX8_event.cls ≠ "java/lang/invoke/MethodHandle" ∧ yX8_event.cls ≠ "java/lang/invoke/VarHandle" ∧ (parseMethodDescriptor yX8_event.desc).map (fun d => d.parameters.length) = some 2 := by decide +kernel
def f_X8_event_5 (x : Int32) (w : Int32) (ω : Mem) : Int32 × Mem := (if x < 0 then ((-2), ω) else (if (f_X8_in w 0 2 ω) = 0 then ((-2), ω) else (if (ω 121 12) ≤ x then ((-5), ω) else ((ω 121 (13 + (3 * ((ω 121 12).toNatClampNeg - 1 - x.toNatClampNeg)) + w.toNatClampNeg)), ω))))
set_option maxRecDepth 100000 in
set_option maxHeartbeats 4000000 in
theorem k_X8_event_5 {l_ : Launch} {p_ : Program} {e_ : Env} {s_ : State} {m_ : MethodId} {args_ : Array Value} {below_ : List Frame} {meth_ : Method} {c_ : Code} {sa : Nat → Nat} {D : va_G} {X : Nat → ClassId} {ad : Nat → Nat} {G0 : Nat → va_E} (x : Int32) (w : Int32) (C : GC p_ rm_X8_event s_ m_ args_ meth_ c_ cX8_event 3 wsX8_event RX8 sa D (tyX X) (va_A (gw 128 ad G0) s_.heap.size)) (hret : meth_.sig.returnType = (some .int)) (hlk : meth_.locks = false) : ∀  (ω : Mem) (hmi : MIn 10 ω) (rv : Option Value) (G2 : Nat → va_E) (e1 : rv = some (.int (f_X8_event_5 x w ω).1)) (e2 : G2 = mk X ad (f_X8_event_5 x w ω).2), GV p_ l_ e_ rm_X8_event s_ m_ args_ below_ meth_ c_ 0 0 (CQ below_ args_ s_ D 128 ad G0 rv G2) D (va_A (gw 128 ad G0) s_.heap.size) 3 128 ad (mk X ad ω) [(0, .ref (ad 120)), (1, .int x), (2, .int w)] 5 [] := by
  have iX8 : ∀ w ∈ u_ws RX8 TX8 14, w ∈ wsX8_event := by decide +kernel
  have L7 : Cond.fieldLink RX8 7 (TX8 1).1 (TX8 1).2.1 (TX8 1).2.2.1 ∈ wsX8_event := by decide +kernel
  intro ω hmi rv G2 e1 e2
  refine g_iload_n C dX8_event_5 rfl 1 rfl ?_
  refine g_if_lt (tgt := 18) C dX8_event_6 (by decide) (fun h1 => ?_) (fun h1 => ?_)
  · refine g_bipush (v := (-2)) C dX8_event_18 (by decide) ?_
    exact g_iret C hret hlk (e1.trans (pr1 (v := (-2)) (w := ω) ((if_pos h1).trans rfl))) (e2.trans (pr2 (v := (-2)) (w := ω) ((if_pos h1).trans rfl))) dX8_event_20
  · refine g_iload_n C dX8_event_9 rfl 2 rfl ?_
    refine g_iconst (v := 0) C dX8_event_10 (by decide) ?_
    refine g_iconst (v := 2) C dX8_event_11 (by decide) ?_
    refine g_callS (rest := []) (st1 := [.int (f_X8_in w 0 2 ω)]) C (c_X8_in w 0 2 ω) (va_cwS 3 C.hts gX8_event_X8_in rfl rfl rfl md_X8_in.2 ⟨Nat.le_of_ble_eq_true rfl, Nat.le_of_ble_eq_true rfl⟩) rfl rfl rfl (Nat.le_of_ble_eq_true rfl) dX8_event_12 (Nat.zero_le _) (Nat.zero_le _) ?_
    refine g_if_ne (tgt := 21) C dX8_event_15 (by decide) (fun h2 => ?_) (fun h2 => ?_)
    · refine g_iload_n C dX8_event_21 rfl 1 rfl ?_
      refine g_aload_n C dX8_event_22 rfl 0 rfl ?_
      refine g_get (v := .ref (ad 121)) C iX8 (by decide) (mk_11 (by decide)) rfl 1 (by decide) L7 rfl dX8_event_23 ?_
      refine g_bipush (v := 12) C dX8_event_26 (by decide) ?_
      refine g_iald (k := 12) C 0 (by decide) (mk_12n (N := 108) (by decide) (by decide)) rfl (by unfold vp_in; decide) rfl dX8_event_28 ?_
      refine g_icmp_ge (tgt := 58) C dX8_event_29 (by decide) (fun h3 => ?_) (fun h3 => ?_)
      · refine g_bipush (v := (-5)) C dX8_event_58 (by decide) ?_
        exact g_iret C hret hlk (e1.trans (pr1 (v := (-5)) (w := ω) ((if_neg h1).trans ((if_neg h2).trans ((if_pos h3).trans rfl))))) (e2.trans (pr2 (v := (-5)) (w := ω) ((if_neg h1).trans ((if_neg h2).trans ((if_pos h3).trans rfl))))) dX8_event_60
      · refine g_aload_n C dX8_event_32 rfl 0 rfl ?_
        refine g_get (v := .ref (ad 121)) C iX8 (by decide) (mk_11 (by decide)) rfl 1 (by decide) L7 rfl dX8_event_33 ?_
        refine g_bipush (v := 13) C dX8_event_36 (by decide) ?_
        refine g_iconst (v := 3) C dX8_event_38 (by decide) ?_
        refine g_aload_n C dX8_event_39 rfl 0 rfl ?_
        refine g_get (v := .ref (ad 121)) C iX8 (by decide) (mk_11 (by decide)) rfl 1 (by decide) L7 rfl dX8_event_40 ?_
        refine g_bipush (v := 12) C dX8_event_43 (by decide) ?_
        refine g_iald (k := 12) C 0 (by decide) (mk_12n (N := 108) (by decide) (by decide)) rfl (by unfold vp_in; decide) rfl dX8_event_45 ?_
        have hlt := (rg_ltn (n := 10) h1 (lt_of_nle h3) hmi.1 (by decide))
        have hz4 : (ω 121 12).toNatClampNeg ≤ _ := (hmi.1).2
        refine gv_eqS (st' := [.int (nI ((ω 121 12).toNatClampNeg)), .int 3, .int 13, .ref (ad 121)]) (congrArg (fun z : Int32 => ([Value.int z, .int 3, .int 13, .ref (ad 121)] : List Value)) (hmi.1).1) ?_
        refine g_iconst (v := 1) C dX8_event_46 (by decide) ?_
        refine g_isub (v := (nI ((ω 121 12).toNatClampNeg - 1))) C dX8_event_47 (pk_sub (a := (ω 121 12).toNatClampNeg) (b := 1) (by omega)) ?_
        refine g_iload_n C dX8_event_48 rfl 1 rfl ?_
        have hz5 : x.toNatClampNeg ≤ _ := ((⟨hlt.1, Nat.le_of_lt hlt.2⟩ : rg x (ω 121 12).toNatClampNeg)).2
        refine gv_eqS (st' := [.int (nI (x.toNatClampNeg)), .int (nI ((ω 121 12).toNatClampNeg - 1)), .int 3, .int 13, .ref (ad 121)]) (congrArg (fun z : Int32 => ([Value.int z, .int (nI ((ω 121 12).toNatClampNeg - 1)), .int 3, .int 13, .ref (ad 121)] : List Value)) ((⟨hlt.1, Nat.le_of_lt hlt.2⟩ : rg x (ω 121 12).toNatClampNeg)).1) ?_
        refine g_isub (v := (nI ((ω 121 12).toNatClampNeg - 1 - x.toNatClampNeg))) C dX8_event_49 (pk_sub (a := (ω 121 12).toNatClampNeg - 1) (b := x.toNatClampNeg) (by omega)) ?_
        refine g_imul (v := (nI (3 * ((ω 121 12).toNatClampNeg - 1 - x.toNatClampNeg)))) C dX8_event_50 (pk_mul (3) ((ω 121 12).toNatClampNeg - 1 - x.toNatClampNeg)) ?_
        refine g_iadd (v := (nI (13 + (3 * ((ω 121 12).toNatClampNeg - 1 - x.toNatClampNeg))))) C dX8_event_51 (nI_add (13) (3 * ((ω 121 12).toNatClampNeg - 1 - x.toNatClampNeg))) ?_
        refine g_iload_n C dX8_event_52 rfl 2 rfl ?_
        have hz6 : w.toNatClampNeg ≤ _ := (in_rg (n := 2) rfl h2).2
        refine gv_eqS (st' := [.int (nI (w.toNatClampNeg)), .int (nI (13 + (3 * ((ω 121 12).toNatClampNeg - 1 - x.toNatClampNeg)))), .ref (ad 121)]) (congrArg (fun z : Int32 => ([Value.int z, .int (nI (13 + (3 * ((ω 121 12).toNatClampNeg - 1 - x.toNatClampNeg)))), .ref (ad 121)] : List Value)) (in_rg (n := 2) rfl h2).1) ?_
        refine g_iadd (v := (nI (13 + (3 * ((ω 121 12).toNatClampNeg - 1 - x.toNatClampNeg)) + w.toNatClampNeg))) C dX8_event_53 (nI_add (13 + (3 * ((ω 121 12).toNatClampNeg - 1 - x.toNatClampNeg))) (w.toNatClampNeg)) ?_
        refine g_iald (k := 13 + (3 * ((ω 121 12).toNatClampNeg - 1 - x.toNatClampNeg)) + w.toNatClampNeg) C 0 (by decide) (mk_12n (N := 108) (by decide) (by decide)) rfl (vp_in_nI (n := 13 + (3 * ((ω 121 12).toNatClampNeg - 1 - x.toNatClampNeg)) + w.toNatClampNeg) (by omega) (by decide)) (nI_clamp (n := 13 + (3 * ((ω 121 12).toNatClampNeg - 1 - x.toNatClampNeg)) + w.toNatClampNeg) (by omega)) dX8_event_54 ?_
        refine g_goto (tgt := 60) C dX8_event_55 (by decide) ?_
        exact g_iret C hret hlk (e1.trans (pr1 (v := (ω 121 (13 + (3 * ((ω 121 12).toNatClampNeg - 1 - x.toNatClampNeg)) + w.toNatClampNeg))) (w := ω) ((if_neg h1).trans ((if_neg h2).trans ((if_neg h3).trans rfl))))) (e2.trans (pr2 (v := (ω 121 (13 + (3 * ((ω 121 12).toNatClampNeg - 1 - x.toNatClampNeg)) + w.toNatClampNeg))) (w := ω) ((if_neg h1).trans ((if_neg h2).trans ((if_neg h3).trans rfl))))) dX8_event_60
    · refine g_bipush (v := (-2)) C dX8_event_18 (by decide) ?_
      exact g_iret C hret hlk (e1.trans (pr1 (v := (-2)) (w := ω) ((if_neg h1).trans ((if_pos h2).trans rfl)))) (e2.trans (pr2 (v := (-2)) (w := ω) ((if_neg h1).trans ((if_pos h2).trans rfl)))) dX8_event_20
def f_X8_event (x : Int32) (w : Int32) (ω : Mem) : Int32 × Mem := (f_X8_event_5 x w (st ω 120 0 0))
set_option maxRecDepth 100000 in
set_option maxHeartbeats 4000000 in
theorem c_X8_event {l_ : Launch} {sa : Nat → Nat} {D : va_G} {X : Nat → ClassId} {ad : Nat → Nat} (x : Int32) (w : Int32) (ω : Mem) (hmi : MIn 10 ω) : CT l_ yX8_event wsX8_event rm_X8_event sa D (tyX X) 128 ad (mk X ad ω) [.ref (ad 120), .int x, .int w] (some (.int (f_X8_event x w ω).1) : Option Value) (mk X ad (f_X8_event x w ω).2) := by
  refine ct_of [(0, .ref (ad 120)), (1, .int x), (2, .int w)] (by decide +kernel) rfl rfl (Nat.le_of_ble_eq_true rfl) rfl ?_
  intro p_ e_ s_ m_ args_ below_ meth_ c_ C hret hlk hin
  have e1 : (some (.int (f_X8_event x w ω).1) : Option Value) = (some (.int (f_X8_event x w ω).1) : Option Value) := rfl
  have e2 : mk X ad (f_X8_event x w ω).2 = mk X ad (f_X8_event x w ω).2 := rfl
  have iX8 : ∀ w ∈ u_ws RX8 TX8 14, w ∈ wsX8_event := by decide +kernel
  have L31 : Cond.fieldLink RX8 31 (TX8 0).1 (TX8 0).2.1 (TX8 0).2.2.1 ∈ wsX8_event := by decide +kernel
  refine g_aload_n C dX8_event_0 rfl 0 rfl ?_
  refine g_iconst (v := 0) C dX8_event_1 (by decide) ?_
  refine g_put C iX8 tyX8 tyX8_ok nmX8 (by decide) (mk_11 (by decide)) rfl 0 (by decide) L31 rfl rfl rfl (Nat.le_of_ble_eq_true rfl) dX8_event_2 ?_
  refine gv_eqG (mkp_11_0 (by decide)) ?_
  exact k_X8_event_5 x w  C hret hlk  (st ω 120 0 0) (MIn_f hmi (by decide)) _ _ (e1.trans (congrArg (fun z : Int32 × Mem => some (Value.int z.1)) rfl)) (e2.trans (congrArg (fun z : Int32 × Mem => mk X ad z.2) rfl))
abbrev rm_X8_count : Room := { frames := 3, cells := 0, slots := 0, locals := 65 }
theorem md_X8_count : yX8_count.cls = RX8 ∧ yX8_count.cls ≠ "java/lang/invoke/MethodHandle" ∧ yX8_count.cls ≠ "java/lang/invoke/VarHandle" ∧ (parseMethodDescriptor yX8_count.desc).map (fun d => d.parameters.length) = some 1 := by decide +kernel
def f_X8_count_5 (w : Int32) (ω : Mem) : Int32 × Mem := (if w = 0 then ((ω 121 4), ω) else (if w = 1 then ((ω 121 5), ω) else (if w = 2 then ((f_X8_draftAt (ω 121 4) ω), ω) else (if w = 3 then ((ω 121 43), ω) else (if w = 4 then (if (f_X8_in w 4 7 ω) = 0 then ((-2), ω) else ((ω 121 (8 + w.toNatClampNeg - 4)), ω)) else (if w = 5 then (if (f_X8_in w 4 7 ω) = 0 then ((-2), ω) else ((ω 121 (8 + w.toNatClampNeg - 4)), ω)) else (if w = 6 then (if (f_X8_in w 4 7 ω) = 0 then ((-2), ω) else ((ω 121 (8 + w.toNatClampNeg - 4)), ω)) else (if w = 7 then (if (f_X8_in w 4 7 ω) = 0 then ((-2), ω) else ((ω 121 (8 + w.toNatClampNeg - 4)), ω)) else (if w = 8 then ((f_X8_sumOver 4 ω), ω) else (if w = 9 then ((f_X8_openValves ω), ω) else (if w = 10 then ((f_X8_sumOver 6 ω), ω) else (if w = 11 then ((ω 121 6), ω) else (if w = 12 then ((ω 121 7), ω) else (if w = 13 then ((ω 120 4), ω) else (if w = 14 then ((ω 120 8), ω) else (if (f_X8_in w 4 7 ω) = 0 then ((-2), ω) else ((ω 121 (8 + w.toNatClampNeg - 4)), ω)))))))))))))))))
set_option maxRecDepth 100000 in
set_option maxHeartbeats 4000000 in
theorem k_X8_count_5 {l_ : Launch} {p_ : Program} {e_ : Env} {s_ : State} {m_ : MethodId} {args_ : Array Value} {below_ : List Frame} {meth_ : Method} {c_ : Code} {sa : Nat → Nat} {D : va_G} {X : Nat → ClassId} {ad : Nat → Nat} {G0 : Nat → va_E} (w : Int32) (C : GC p_ rm_X8_count s_ m_ args_ meth_ c_ cX8_count 2 wsX8_count RX8 sa D (tyX X) (va_A (gw 128 ad G0) s_.heap.size)) (hret : meth_.sig.returnType = (some .int)) (hlk : meth_.locks = false) : ∀  (ω : Mem) (hmi : MIn 10 ω) (rv : Option Value) (G2 : Nat → va_E) (e1 : rv = some (.int (f_X8_count_5 w ω).1)) (e2 : G2 = mk X ad (f_X8_count_5 w ω).2), GV p_ l_ e_ rm_X8_count s_ m_ args_ below_ meth_ c_ 0 0 (CQ below_ args_ s_ D 128 ad G0 rv G2) D (va_A (gw 128 ad G0) s_.heap.size) 2 128 ad (mk X ad ω) [(0, .ref (ad 120)), (1, .int w)] 5 [] := by
  have iX8 : ∀ w ∈ u_ws RX8 TX8 14, w ∈ wsX8_count := by decide +kernel
  have L113 : Cond.fieldLink RX8 113 (TX8 8).1 (TX8 8).2.1 (TX8 8).2.2.1 ∈ wsX8_count := by decide +kernel
  have L39 : Cond.fieldLink RX8 39 (TX8 4).1 (TX8 4).2.1 (TX8 4).2.2.1 ∈ wsX8_count := by decide +kernel
  have L7 : Cond.fieldLink RX8 7 (TX8 1).1 (TX8 1).2.1 (TX8 1).2.2.1 ∈ wsX8_count := by decide +kernel
  intro ω hmi rv G2 e1 e2
  refine g_iload_n C dX8_count_5 rfl 1 rfl ?_
  by_cases h1 : w = 0
  · refine g_tabIn (tgt := 80) C dX8_count_6 (by rw [h1]; decide) (by rw [h1]; decide) (by rw [h1]; rfl) (by decide) ?_
    refine g_aload_n C dX8_count_80 rfl 0 rfl ?_
    refine g_get (v := .ref (ad 121)) C iX8 (by decide) (mk_11 (by decide)) rfl 1 (by decide) L7 rfl dX8_count_81 ?_
    refine g_iconst (v := 4) C dX8_count_84 (by decide) ?_
    refine g_iald (k := 4) C 0 (by decide) (mk_12n (N := 108) (by decide) (by decide)) rfl (by unfold vp_in; decide) rfl dX8_count_85 ?_
    exact g_iret C hret hlk (e1.trans (pr1 (v := (ω 121 4)) (w := ω) ((if_pos h1).trans rfl))) (e2.trans (pr2 (v := (ω 121 4)) (w := ω) ((if_pos h1).trans rfl))) dX8_count_86
  · by_cases h2 : w = 1
    · refine g_tabIn (tgt := 87) C dX8_count_6 (by rw [h2]; decide) (by rw [h2]; decide) (by rw [h2]; rfl) (by decide) ?_
      refine g_aload_n C dX8_count_87 rfl 0 rfl ?_
      refine g_get (v := .ref (ad 121)) C iX8 (by decide) (mk_11 (by decide)) rfl 1 (by decide) L7 rfl dX8_count_88 ?_
      refine g_iconst (v := 5) C dX8_count_91 (by decide) ?_
      refine g_iald (k := 5) C 0 (by decide) (mk_12n (N := 108) (by decide) (by decide)) rfl (by unfold vp_in; decide) rfl dX8_count_92 ?_
      exact g_iret C hret hlk (e1.trans (pr1 (v := (ω 121 5)) (w := ω) ((if_neg h1).trans ((if_pos h2).trans rfl)))) (e2.trans (pr2 (v := (ω 121 5)) (w := ω) ((if_neg h1).trans ((if_pos h2).trans rfl)))) dX8_count_93
    · by_cases h3 : w = 2
      · refine g_tabIn (tgt := 94) C dX8_count_6 (by rw [h3]; decide) (by rw [h3]; decide) (by rw [h3]; rfl) (by decide) ?_
        refine g_aload_n C dX8_count_94 rfl 0 rfl ?_
        refine g_aload_n C dX8_count_95 rfl 0 rfl ?_
        refine g_get (v := .ref (ad 121)) C iX8 (by decide) (mk_11 (by decide)) rfl 1 (by decide) L7 rfl dX8_count_96 ?_
        refine g_iconst (v := 4) C dX8_count_99 (by decide) ?_
        refine g_iald (k := 4) C 0 (by decide) (mk_12n (N := 108) (by decide) (by decide)) rfl (by unfold vp_in; decide) rfl dX8_count_100 ?_
        refine g_callV (rest := []) (st1 := [.int (f_X8_draftAt (ω 121 4) ω)]) C (c_X8_draftAt (ω 121 4) ω hmi) (cwV 1 C.hts gX8_count_X8_draftAt rfl rfl rfl md_X8_draftAt ⟨Nat.le_of_ble_eq_true rfl, Nat.le_of_ble_eq_true rfl⟩) (by decide) (mk_11 (by decide)) rfl rfl rfl rfl rfl (Nat.le_of_ble_eq_true rfl) dX8_count_101 (Nat.zero_le _) (Nat.zero_le _) ?_
        exact g_iret C hret hlk (e1.trans (pr1 (v := (f_X8_draftAt (ω 121 4) ω)) (w := ω) ((if_neg h1).trans ((if_neg h2).trans ((if_pos h3).trans rfl))))) (e2.trans (pr2 (v := (f_X8_draftAt (ω 121 4) ω)) (w := ω) ((if_neg h1).trans ((if_neg h2).trans ((if_pos h3).trans rfl))))) dX8_count_104
      · by_cases h4 : w = 3
        · refine g_tabIn (tgt := 105) C dX8_count_6 (by rw [h4]; decide) (by rw [h4]; decide) (by rw [h4]; rfl) (by decide) ?_
          refine g_aload_n C dX8_count_105 rfl 0 rfl ?_
          refine g_get (v := .ref (ad 121)) C iX8 (by decide) (mk_11 (by decide)) rfl 1 (by decide) L7 rfl dX8_count_106 ?_
          refine g_bipush (v := 43) C dX8_count_109 (by decide) ?_
          refine g_iald (k := 43) C 0 (by decide) (mk_12n (N := 108) (by decide) (by decide)) rfl (by unfold vp_in; decide) rfl dX8_count_111 ?_
          exact g_iret C hret hlk (e1.trans (pr1 (v := (ω 121 43)) (w := ω) ((if_neg h1).trans ((if_neg h2).trans ((if_neg h3).trans ((if_pos h4).trans rfl)))))) (e2.trans (pr2 (v := (ω 121 43)) (w := ω) ((if_neg h1).trans ((if_neg h2).trans ((if_neg h3).trans ((if_pos h4).trans rfl)))))) dX8_count_112
        · by_cases h5 : w = 4
          · refine g_tabIn (tgt := 157) C dX8_count_6 (by rw [h5]; decide) (by rw [h5]; decide) (by rw [h5]; rfl) (by decide) ?_
            refine g_iload_n C dX8_count_157 rfl 1 rfl ?_
            refine g_iconst (v := 4) C dX8_count_158 (by decide) ?_
            refine g_bipush (v := 7) C dX8_count_159 (by decide) ?_
            refine g_callS (rest := []) (st1 := [.int (f_X8_in w 4 7 ω)]) C (c_X8_in w 4 7 ω) (va_cwS 3 C.hts gX8_count_X8_in rfl rfl rfl md_X8_in.2 ⟨Nat.le_of_ble_eq_true rfl, Nat.le_of_ble_eq_true rfl⟩) rfl rfl rfl (Nat.le_of_ble_eq_true rfl) dX8_count_161 (Nat.zero_le _) (Nat.zero_le _) ?_
            refine g_if_eq (tgt := 181) C dX8_count_164 (by decide) (fun h6 => ?_) (fun h6 => ?_)
            · refine g_bipush (v := (-2)) C dX8_count_181 (by decide) ?_
              exact g_iret C hret hlk (e1.trans (pr1 (v := (-2)) (w := ω) ((if_neg h1).trans ((if_neg h2).trans ((if_neg h3).trans ((if_neg h4).trans ((if_pos h5).trans ((if_pos h6).trans rfl)))))))) (e2.trans (pr2 (v := (-2)) (w := ω) ((if_neg h1).trans ((if_neg h2).trans ((if_neg h3).trans ((if_neg h4).trans ((if_pos h5).trans ((if_pos h6).trans rfl)))))))) dX8_count_183
            · refine g_aload_n C dX8_count_167 rfl 0 rfl ?_
              refine g_get (v := .ref (ad 121)) C iX8 (by decide) (mk_11 (by decide)) rfl 1 (by decide) L7 rfl dX8_count_168 ?_
              refine g_bipush (v := 8) C dX8_count_171 (by decide) ?_
              refine g_iload_n C dX8_count_173 rfl 1 rfl ?_
              have hz7 : w.toNatClampNeg ≤ _ := ((in_rg4 h6).1).2
              refine gv_eqS (st' := [.int (nI (w.toNatClampNeg)), .int 8, .ref (ad 121)]) (congrArg (fun z : Int32 => ([Value.int z, .int 8, .ref (ad 121)] : List Value)) ((in_rg4 h6).1).1) ?_
              refine g_iadd (v := (nI (8 + w.toNatClampNeg))) C dX8_count_174 (nI_add (8) (w.toNatClampNeg)) ?_
              refine g_iconst (v := 4) C dX8_count_175 (by decide) ?_
              refine g_isub (v := (nI (8 + w.toNatClampNeg - 4))) C dX8_count_176 (pk_sub (a := 8 + w.toNatClampNeg) (b := 4) (by omega)) ?_
              refine g_iald (k := 8 + w.toNatClampNeg - 4) C 0 (by decide) (mk_12n (N := 108) (by decide) (by decide)) rfl (vp_in_nI (n := 8 + w.toNatClampNeg - 4) (by omega) (by decide)) (nI_clamp (n := 8 + w.toNatClampNeg - 4) (by omega)) dX8_count_177 ?_
              refine g_goto (tgt := 183) C dX8_count_178 (by decide) ?_
              exact g_iret C hret hlk (e1.trans (pr1 (v := (ω 121 (8 + w.toNatClampNeg - 4))) (w := ω) ((if_neg h1).trans ((if_neg h2).trans ((if_neg h3).trans ((if_neg h4).trans ((if_pos h5).trans ((if_neg h6).trans rfl)))))))) (e2.trans (pr2 (v := (ω 121 (8 + w.toNatClampNeg - 4))) (w := ω) ((if_neg h1).trans ((if_neg h2).trans ((if_neg h3).trans ((if_neg h4).trans ((if_pos h5).trans ((if_neg h6).trans rfl)))))))) dX8_count_183
          · by_cases h8 : w = 5
            · refine g_tabIn (tgt := 157) C dX8_count_6 (by rw [h8]; decide) (by rw [h8]; decide) (by rw [h8]; rfl) (by decide) ?_
              refine g_iload_n C dX8_count_157 rfl 1 rfl ?_
              refine g_iconst (v := 4) C dX8_count_158 (by decide) ?_
              refine g_bipush (v := 7) C dX8_count_159 (by decide) ?_
              refine g_callS (rest := []) (st1 := [.int (f_X8_in w 4 7 ω)]) C (c_X8_in w 4 7 ω) (va_cwS 3 C.hts gX8_count_X8_in rfl rfl rfl md_X8_in.2 ⟨Nat.le_of_ble_eq_true rfl, Nat.le_of_ble_eq_true rfl⟩) rfl rfl rfl (Nat.le_of_ble_eq_true rfl) dX8_count_161 (Nat.zero_le _) (Nat.zero_le _) ?_
              refine g_if_eq (tgt := 181) C dX8_count_164 (by decide) (fun h9 => ?_) (fun h9 => ?_)
              · refine g_bipush (v := (-2)) C dX8_count_181 (by decide) ?_
                exact g_iret C hret hlk (e1.trans (pr1 (v := (-2)) (w := ω) ((if_neg h1).trans ((if_neg h2).trans ((if_neg h3).trans ((if_neg h4).trans ((if_neg h5).trans ((if_pos h8).trans ((if_pos h9).trans rfl))))))))) (e2.trans (pr2 (v := (-2)) (w := ω) ((if_neg h1).trans ((if_neg h2).trans ((if_neg h3).trans ((if_neg h4).trans ((if_neg h5).trans ((if_pos h8).trans ((if_pos h9).trans rfl))))))))) dX8_count_183
              · refine g_aload_n C dX8_count_167 rfl 0 rfl ?_
                refine g_get (v := .ref (ad 121)) C iX8 (by decide) (mk_11 (by decide)) rfl 1 (by decide) L7 rfl dX8_count_168 ?_
                refine g_bipush (v := 8) C dX8_count_171 (by decide) ?_
                refine g_iload_n C dX8_count_173 rfl 1 rfl ?_
                have hz10 : w.toNatClampNeg ≤ _ := ((in_rg4 h9).1).2
                refine gv_eqS (st' := [.int (nI (w.toNatClampNeg)), .int 8, .ref (ad 121)]) (congrArg (fun z : Int32 => ([Value.int z, .int 8, .ref (ad 121)] : List Value)) ((in_rg4 h9).1).1) ?_
                refine g_iadd (v := (nI (8 + w.toNatClampNeg))) C dX8_count_174 (nI_add (8) (w.toNatClampNeg)) ?_
                refine g_iconst (v := 4) C dX8_count_175 (by decide) ?_
                refine g_isub (v := (nI (8 + w.toNatClampNeg - 4))) C dX8_count_176 (pk_sub (a := 8 + w.toNatClampNeg) (b := 4) (by omega)) ?_
                refine g_iald (k := 8 + w.toNatClampNeg - 4) C 0 (by decide) (mk_12n (N := 108) (by decide) (by decide)) rfl (vp_in_nI (n := 8 + w.toNatClampNeg - 4) (by omega) (by decide)) (nI_clamp (n := 8 + w.toNatClampNeg - 4) (by omega)) dX8_count_177 ?_
                refine g_goto (tgt := 183) C dX8_count_178 (by decide) ?_
                exact g_iret C hret hlk (e1.trans (pr1 (v := (ω 121 (8 + w.toNatClampNeg - 4))) (w := ω) ((if_neg h1).trans ((if_neg h2).trans ((if_neg h3).trans ((if_neg h4).trans ((if_neg h5).trans ((if_pos h8).trans ((if_neg h9).trans rfl))))))))) (e2.trans (pr2 (v := (ω 121 (8 + w.toNatClampNeg - 4))) (w := ω) ((if_neg h1).trans ((if_neg h2).trans ((if_neg h3).trans ((if_neg h4).trans ((if_neg h5).trans ((if_pos h8).trans ((if_neg h9).trans rfl))))))))) dX8_count_183
            · by_cases h11 : w = 6
              · refine g_tabIn (tgt := 157) C dX8_count_6 (by rw [h11]; decide) (by rw [h11]; decide) (by rw [h11]; rfl) (by decide) ?_
                refine g_iload_n C dX8_count_157 rfl 1 rfl ?_
                refine g_iconst (v := 4) C dX8_count_158 (by decide) ?_
                refine g_bipush (v := 7) C dX8_count_159 (by decide) ?_
                refine g_callS (rest := []) (st1 := [.int (f_X8_in w 4 7 ω)]) C (c_X8_in w 4 7 ω) (va_cwS 3 C.hts gX8_count_X8_in rfl rfl rfl md_X8_in.2 ⟨Nat.le_of_ble_eq_true rfl, Nat.le_of_ble_eq_true rfl⟩) rfl rfl rfl (Nat.le_of_ble_eq_true rfl) dX8_count_161 (Nat.zero_le _) (Nat.zero_le _) ?_
                refine g_if_eq (tgt := 181) C dX8_count_164 (by decide) (fun h12 => ?_) (fun h12 => ?_)
                · refine g_bipush (v := (-2)) C dX8_count_181 (by decide) ?_
                  exact g_iret C hret hlk (e1.trans (pr1 (v := (-2)) (w := ω) ((if_neg h1).trans ((if_neg h2).trans ((if_neg h3).trans ((if_neg h4).trans ((if_neg h5).trans ((if_neg h8).trans ((if_pos h11).trans ((if_pos h12).trans rfl)))))))))) (e2.trans (pr2 (v := (-2)) (w := ω) ((if_neg h1).trans ((if_neg h2).trans ((if_neg h3).trans ((if_neg h4).trans ((if_neg h5).trans ((if_neg h8).trans ((if_pos h11).trans ((if_pos h12).trans rfl)))))))))) dX8_count_183
                · refine g_aload_n C dX8_count_167 rfl 0 rfl ?_
                  refine g_get (v := .ref (ad 121)) C iX8 (by decide) (mk_11 (by decide)) rfl 1 (by decide) L7 rfl dX8_count_168 ?_
                  refine g_bipush (v := 8) C dX8_count_171 (by decide) ?_
                  refine g_iload_n C dX8_count_173 rfl 1 rfl ?_
                  have hz13 : w.toNatClampNeg ≤ _ := ((in_rg4 h12).1).2
                  refine gv_eqS (st' := [.int (nI (w.toNatClampNeg)), .int 8, .ref (ad 121)]) (congrArg (fun z : Int32 => ([Value.int z, .int 8, .ref (ad 121)] : List Value)) ((in_rg4 h12).1).1) ?_
                  refine g_iadd (v := (nI (8 + w.toNatClampNeg))) C dX8_count_174 (nI_add (8) (w.toNatClampNeg)) ?_
                  refine g_iconst (v := 4) C dX8_count_175 (by decide) ?_
                  refine g_isub (v := (nI (8 + w.toNatClampNeg - 4))) C dX8_count_176 (pk_sub (a := 8 + w.toNatClampNeg) (b := 4) (by omega)) ?_
                  refine g_iald (k := 8 + w.toNatClampNeg - 4) C 0 (by decide) (mk_12n (N := 108) (by decide) (by decide)) rfl (vp_in_nI (n := 8 + w.toNatClampNeg - 4) (by omega) (by decide)) (nI_clamp (n := 8 + w.toNatClampNeg - 4) (by omega)) dX8_count_177 ?_
                  refine g_goto (tgt := 183) C dX8_count_178 (by decide) ?_
                  exact g_iret C hret hlk (e1.trans (pr1 (v := (ω 121 (8 + w.toNatClampNeg - 4))) (w := ω) ((if_neg h1).trans ((if_neg h2).trans ((if_neg h3).trans ((if_neg h4).trans ((if_neg h5).trans ((if_neg h8).trans ((if_pos h11).trans ((if_neg h12).trans rfl)))))))))) (e2.trans (pr2 (v := (ω 121 (8 + w.toNatClampNeg - 4))) (w := ω) ((if_neg h1).trans ((if_neg h2).trans ((if_neg h3).trans ((if_neg h4).trans ((if_neg h5).trans ((if_neg h8).trans ((if_pos h11).trans ((if_neg h12).trans rfl)))))))))) dX8_count_183
              · by_cases h14 : w = 7
                · refine g_tabIn (tgt := 157) C dX8_count_6 (by rw [h14]; decide) (by rw [h14]; decide) (by rw [h14]; rfl) (by decide) ?_
                  refine g_iload_n C dX8_count_157 rfl 1 rfl ?_
                  refine g_iconst (v := 4) C dX8_count_158 (by decide) ?_
                  refine g_bipush (v := 7) C dX8_count_159 (by decide) ?_
                  refine g_callS (rest := []) (st1 := [.int (f_X8_in w 4 7 ω)]) C (c_X8_in w 4 7 ω) (va_cwS 3 C.hts gX8_count_X8_in rfl rfl rfl md_X8_in.2 ⟨Nat.le_of_ble_eq_true rfl, Nat.le_of_ble_eq_true rfl⟩) rfl rfl rfl (Nat.le_of_ble_eq_true rfl) dX8_count_161 (Nat.zero_le _) (Nat.zero_le _) ?_
                  refine g_if_eq (tgt := 181) C dX8_count_164 (by decide) (fun h15 => ?_) (fun h15 => ?_)
                  · refine g_bipush (v := (-2)) C dX8_count_181 (by decide) ?_
                    exact g_iret C hret hlk (e1.trans (pr1 (v := (-2)) (w := ω) ((if_neg h1).trans ((if_neg h2).trans ((if_neg h3).trans ((if_neg h4).trans ((if_neg h5).trans ((if_neg h8).trans ((if_neg h11).trans ((if_pos h14).trans ((if_pos h15).trans rfl))))))))))) (e2.trans (pr2 (v := (-2)) (w := ω) ((if_neg h1).trans ((if_neg h2).trans ((if_neg h3).trans ((if_neg h4).trans ((if_neg h5).trans ((if_neg h8).trans ((if_neg h11).trans ((if_pos h14).trans ((if_pos h15).trans rfl))))))))))) dX8_count_183
                  · refine g_aload_n C dX8_count_167 rfl 0 rfl ?_
                    refine g_get (v := .ref (ad 121)) C iX8 (by decide) (mk_11 (by decide)) rfl 1 (by decide) L7 rfl dX8_count_168 ?_
                    refine g_bipush (v := 8) C dX8_count_171 (by decide) ?_
                    refine g_iload_n C dX8_count_173 rfl 1 rfl ?_
                    have hz16 : w.toNatClampNeg ≤ _ := ((in_rg4 h15).1).2
                    refine gv_eqS (st' := [.int (nI (w.toNatClampNeg)), .int 8, .ref (ad 121)]) (congrArg (fun z : Int32 => ([Value.int z, .int 8, .ref (ad 121)] : List Value)) ((in_rg4 h15).1).1) ?_
                    refine g_iadd (v := (nI (8 + w.toNatClampNeg))) C dX8_count_174 (nI_add (8) (w.toNatClampNeg)) ?_
                    refine g_iconst (v := 4) C dX8_count_175 (by decide) ?_
                    refine g_isub (v := (nI (8 + w.toNatClampNeg - 4))) C dX8_count_176 (pk_sub (a := 8 + w.toNatClampNeg) (b := 4) (by omega)) ?_
                    refine g_iald (k := 8 + w.toNatClampNeg - 4) C 0 (by decide) (mk_12n (N := 108) (by decide) (by decide)) rfl (vp_in_nI (n := 8 + w.toNatClampNeg - 4) (by omega) (by decide)) (nI_clamp (n := 8 + w.toNatClampNeg - 4) (by omega)) dX8_count_177 ?_
                    refine g_goto (tgt := 183) C dX8_count_178 (by decide) ?_
                    exact g_iret C hret hlk (e1.trans (pr1 (v := (ω 121 (8 + w.toNatClampNeg - 4))) (w := ω) ((if_neg h1).trans ((if_neg h2).trans ((if_neg h3).trans ((if_neg h4).trans ((if_neg h5).trans ((if_neg h8).trans ((if_neg h11).trans ((if_pos h14).trans ((if_neg h15).trans rfl))))))))))) (e2.trans (pr2 (v := (ω 121 (8 + w.toNatClampNeg - 4))) (w := ω) ((if_neg h1).trans ((if_neg h2).trans ((if_neg h3).trans ((if_neg h4).trans ((if_neg h5).trans ((if_neg h8).trans ((if_neg h11).trans ((if_pos h14).trans ((if_neg h15).trans rfl))))))))))) dX8_count_183
                · by_cases h17 : w = 8
                  · refine g_tabIn (tgt := 113) C dX8_count_6 (by rw [h17]; decide) (by rw [h17]; decide) (by rw [h17]; rfl) (by decide) ?_
                    refine g_aload_n C dX8_count_113 rfl 0 rfl ?_
                    refine g_iconst (v := 4) C dX8_count_114 (by decide) ?_
                    refine g_callV (rest := []) (st1 := [.int (f_X8_sumOver 4 ω)]) C (c_X8_sumOver 4 (by omega) ω) (cwV 1 C.hts gX8_count_X8_sumOver rfl rfl rfl md_X8_sumOver ⟨Nat.le_of_ble_eq_true rfl, Nat.le_of_ble_eq_true rfl⟩) (by decide) (mk_11 (by decide)) rfl rfl rfl rfl rfl (Nat.le_of_ble_eq_true rfl) dX8_count_115 (Nat.zero_le _) (Nat.zero_le _) ?_
                    exact g_iret C hret hlk (e1.trans (pr1 (v := (f_X8_sumOver 4 ω)) (w := ω) ((if_neg h1).trans ((if_neg h2).trans ((if_neg h3).trans ((if_neg h4).trans ((if_neg h5).trans ((if_neg h8).trans ((if_neg h11).trans ((if_neg h14).trans ((if_pos h17).trans rfl))))))))))) (e2.trans (pr2 (v := (f_X8_sumOver 4 ω)) (w := ω) ((if_neg h1).trans ((if_neg h2).trans ((if_neg h3).trans ((if_neg h4).trans ((if_neg h5).trans ((if_neg h8).trans ((if_neg h11).trans ((if_neg h14).trans ((if_pos h17).trans rfl))))))))))) dX8_count_118
                  · by_cases h18 : w = 9
                    · refine g_tabIn (tgt := 119) C dX8_count_6 (by rw [h18]; decide) (by rw [h18]; decide) (by rw [h18]; rfl) (by decide) ?_
                      refine g_aload_n C dX8_count_119 rfl 0 rfl ?_
                      refine g_callV (rest := []) (st1 := [.int (f_X8_openValves ω)]) C (c_X8_openValves ω) (cwV 0 C.hts gX8_count_X8_openValves rfl rfl rfl md_X8_openValves ⟨Nat.le_of_ble_eq_true rfl, Nat.le_of_ble_eq_true rfl⟩) (by decide) (mk_11 (by decide)) rfl rfl rfl rfl rfl (Nat.le_of_ble_eq_true rfl) dX8_count_120 (Nat.zero_le _) (Nat.zero_le _) ?_
                      exact g_iret C hret hlk (e1.trans (pr1 (v := (f_X8_openValves ω)) (w := ω) ((if_neg h1).trans ((if_neg h2).trans ((if_neg h3).trans ((if_neg h4).trans ((if_neg h5).trans ((if_neg h8).trans ((if_neg h11).trans ((if_neg h14).trans ((if_neg h17).trans ((if_pos h18).trans rfl)))))))))))) (e2.trans (pr2 (v := (f_X8_openValves ω)) (w := ω) ((if_neg h1).trans ((if_neg h2).trans ((if_neg h3).trans ((if_neg h4).trans ((if_neg h5).trans ((if_neg h8).trans ((if_neg h11).trans ((if_neg h14).trans ((if_neg h17).trans ((if_pos h18).trans rfl)))))))))))) dX8_count_123
                    · by_cases h19 : w = 10
                      · refine g_tabIn (tgt := 124) C dX8_count_6 (by rw [h19]; decide) (by rw [h19]; decide) (by rw [h19]; rfl) (by decide) ?_
                        refine g_aload_n C dX8_count_124 rfl 0 rfl ?_
                        refine g_bipush (v := 6) C dX8_count_125 (by decide) ?_
                        refine g_callV (rest := []) (st1 := [.int (f_X8_sumOver 6 ω)]) C (c_X8_sumOver 6 (by omega) ω) (cwV 1 C.hts gX8_count_X8_sumOver rfl rfl rfl md_X8_sumOver ⟨Nat.le_of_ble_eq_true rfl, Nat.le_of_ble_eq_true rfl⟩) (by decide) (mk_11 (by decide)) rfl rfl rfl rfl rfl (Nat.le_of_ble_eq_true rfl) dX8_count_127 (Nat.zero_le _) (Nat.zero_le _) ?_
                        exact g_iret C hret hlk (e1.trans (pr1 (v := (f_X8_sumOver 6 ω)) (w := ω) ((if_neg h1).trans ((if_neg h2).trans ((if_neg h3).trans ((if_neg h4).trans ((if_neg h5).trans ((if_neg h8).trans ((if_neg h11).trans ((if_neg h14).trans ((if_neg h17).trans ((if_neg h18).trans ((if_pos h19).trans rfl))))))))))))) (e2.trans (pr2 (v := (f_X8_sumOver 6 ω)) (w := ω) ((if_neg h1).trans ((if_neg h2).trans ((if_neg h3).trans ((if_neg h4).trans ((if_neg h5).trans ((if_neg h8).trans ((if_neg h11).trans ((if_neg h14).trans ((if_neg h17).trans ((if_neg h18).trans ((if_pos h19).trans rfl))))))))))))) dX8_count_130
                      · by_cases h20 : w = 11
                        · refine g_tabIn (tgt := 131) C dX8_count_6 (by rw [h20]; decide) (by rw [h20]; decide) (by rw [h20]; rfl) (by decide) ?_
                          refine g_aload_n C dX8_count_131 rfl 0 rfl ?_
                          refine g_get (v := .ref (ad 121)) C iX8 (by decide) (mk_11 (by decide)) rfl 1 (by decide) L7 rfl dX8_count_132 ?_
                          refine g_bipush (v := 6) C dX8_count_135 (by decide) ?_
                          refine g_iald (k := 6) C 0 (by decide) (mk_12n (N := 108) (by decide) (by decide)) rfl (by unfold vp_in; decide) rfl dX8_count_137 ?_
                          exact g_iret C hret hlk (e1.trans (pr1 (v := (ω 121 6)) (w := ω) ((if_neg h1).trans ((if_neg h2).trans ((if_neg h3).trans ((if_neg h4).trans ((if_neg h5).trans ((if_neg h8).trans ((if_neg h11).trans ((if_neg h14).trans ((if_neg h17).trans ((if_neg h18).trans ((if_neg h19).trans ((if_pos h20).trans rfl)))))))))))))) (e2.trans (pr2 (v := (ω 121 6)) (w := ω) ((if_neg h1).trans ((if_neg h2).trans ((if_neg h3).trans ((if_neg h4).trans ((if_neg h5).trans ((if_neg h8).trans ((if_neg h11).trans ((if_neg h14).trans ((if_neg h17).trans ((if_neg h18).trans ((if_neg h19).trans ((if_pos h20).trans rfl)))))))))))))) dX8_count_138
                        · by_cases h21 : w = 12
                          · refine g_tabIn (tgt := 139) C dX8_count_6 (by rw [h21]; decide) (by rw [h21]; decide) (by rw [h21]; rfl) (by decide) ?_
                            refine g_aload_n C dX8_count_139 rfl 0 rfl ?_
                            refine g_get (v := .ref (ad 121)) C iX8 (by decide) (mk_11 (by decide)) rfl 1 (by decide) L7 rfl dX8_count_140 ?_
                            refine g_bipush (v := 7) C dX8_count_143 (by decide) ?_
                            refine g_iald (k := 7) C 0 (by decide) (mk_12n (N := 108) (by decide) (by decide)) rfl (by unfold vp_in; decide) rfl dX8_count_145 ?_
                            exact g_iret C hret hlk (e1.trans (pr1 (v := (ω 121 7)) (w := ω) ((if_neg h1).trans ((if_neg h2).trans ((if_neg h3).trans ((if_neg h4).trans ((if_neg h5).trans ((if_neg h8).trans ((if_neg h11).trans ((if_neg h14).trans ((if_neg h17).trans ((if_neg h18).trans ((if_neg h19).trans ((if_neg h20).trans ((if_pos h21).trans rfl))))))))))))))) (e2.trans (pr2 (v := (ω 121 7)) (w := ω) ((if_neg h1).trans ((if_neg h2).trans ((if_neg h3).trans ((if_neg h4).trans ((if_neg h5).trans ((if_neg h8).trans ((if_neg h11).trans ((if_neg h14).trans ((if_neg h17).trans ((if_neg h18).trans ((if_neg h19).trans ((if_neg h20).trans ((if_pos h21).trans rfl))))))))))))))) dX8_count_146
                          · by_cases h22 : w = 13
                            · refine g_tabIn (tgt := 147) C dX8_count_6 (by rw [h22]; decide) (by rw [h22]; decide) (by rw [h22]; rfl) (by decide) ?_
                              refine g_aload_n C dX8_count_147 rfl 0 rfl ?_
                              refine g_get (v := .int (ω 120 4)) C iX8 (by decide) (mk_11 (by decide)) rfl 4 (by decide) L39 rfl dX8_count_148 ?_
                              exact g_iret C hret hlk (e1.trans (pr1 (v := (ω 120 4)) (w := ω) ((if_neg h1).trans ((if_neg h2).trans ((if_neg h3).trans ((if_neg h4).trans ((if_neg h5).trans ((if_neg h8).trans ((if_neg h11).trans ((if_neg h14).trans ((if_neg h17).trans ((if_neg h18).trans ((if_neg h19).trans ((if_neg h20).trans ((if_neg h21).trans ((if_pos h22).trans rfl)))))))))))))))) (e2.trans (pr2 (v := (ω 120 4)) (w := ω) ((if_neg h1).trans ((if_neg h2).trans ((if_neg h3).trans ((if_neg h4).trans ((if_neg h5).trans ((if_neg h8).trans ((if_neg h11).trans ((if_neg h14).trans ((if_neg h17).trans ((if_neg h18).trans ((if_neg h19).trans ((if_neg h20).trans ((if_neg h21).trans ((if_pos h22).trans rfl)))))))))))))))) dX8_count_151
                            · by_cases h23 : w = 14
                              · refine g_tabIn (tgt := 152) C dX8_count_6 (by rw [h23]; decide) (by rw [h23]; decide) (by rw [h23]; rfl) (by decide) ?_
                                refine g_aload_n C dX8_count_152 rfl 0 rfl ?_
                                refine g_get (v := .int (ω 120 8)) C iX8 (by decide) (mk_11 (by decide)) rfl 8 (by decide) L113 rfl dX8_count_153 ?_
                                exact g_iret C hret hlk (e1.trans (pr1 (v := (ω 120 8)) (w := ω) ((if_neg h1).trans ((if_neg h2).trans ((if_neg h3).trans ((if_neg h4).trans ((if_neg h5).trans ((if_neg h8).trans ((if_neg h11).trans ((if_neg h14).trans ((if_neg h17).trans ((if_neg h18).trans ((if_neg h19).trans ((if_neg h20).trans ((if_neg h21).trans ((if_neg h22).trans ((if_pos h23).trans rfl))))))))))))))))) (e2.trans (pr2 (v := (ω 120 8)) (w := ω) ((if_neg h1).trans ((if_neg h2).trans ((if_neg h3).trans ((if_neg h4).trans ((if_neg h5).trans ((if_neg h8).trans ((if_neg h11).trans ((if_neg h14).trans ((if_neg h17).trans ((if_neg h18).trans ((if_neg h19).trans ((if_neg h20).trans ((if_neg h21).trans ((if_neg h22).trans ((if_pos h23).trans rfl))))))))))))))))) dX8_count_156
                              · refine g_tabOut (tgt := 157) C dX8_count_6 (tab_out 0 14 (fun k hk hz => by
                                  rcases (show k = 0 ∨ k = 1 ∨ k = 2 ∨ k = 3 ∨ k = 4 ∨ k = 5 ∨ k = 6 ∨ k = 7 ∨ k = 8 ∨ k = 9 ∨ k = 10 ∨ k = 11 ∨ k = 12 ∨ k = 13 ∨ k = 14 by omega) with rfl | rfl | rfl | rfl | rfl | rfl | rfl | rfl | rfl | rfl | rfl | rfl | rfl | rfl | rfl
                                  · exact h1 (Int32.toInt_inj.mp (hz.trans (by decide)))
                                  · exact h2 (Int32.toInt_inj.mp (hz.trans (by decide)))
                                  · exact h3 (Int32.toInt_inj.mp (hz.trans (by decide)))
                                  · exact h4 (Int32.toInt_inj.mp (hz.trans (by decide)))
                                  · exact h5 (Int32.toInt_inj.mp (hz.trans (by decide)))
                                  · exact h8 (Int32.toInt_inj.mp (hz.trans (by decide)))
                                  · exact h11 (Int32.toInt_inj.mp (hz.trans (by decide)))
                                  · exact h14 (Int32.toInt_inj.mp (hz.trans (by decide)))
                                  · exact h17 (Int32.toInt_inj.mp (hz.trans (by decide)))
                                  · exact h18 (Int32.toInt_inj.mp (hz.trans (by decide)))
                                  · exact h19 (Int32.toInt_inj.mp (hz.trans (by decide)))
                                  · exact h20 (Int32.toInt_inj.mp (hz.trans (by decide)))
                                  · exact h21 (Int32.toInt_inj.mp (hz.trans (by decide)))
                                  · exact h22 (Int32.toInt_inj.mp (hz.trans (by decide)))
                                  · exact h23 (Int32.toInt_inj.mp (hz.trans (by decide)))
                                  )) (by decide) ?_
                                refine g_iload_n C dX8_count_157 rfl 1 rfl ?_
                                refine g_iconst (v := 4) C dX8_count_158 (by decide) ?_
                                refine g_bipush (v := 7) C dX8_count_159 (by decide) ?_
                                refine g_callS (rest := []) (st1 := [.int (f_X8_in w 4 7 ω)]) C (c_X8_in w 4 7 ω) (va_cwS 3 C.hts gX8_count_X8_in rfl rfl rfl md_X8_in.2 ⟨Nat.le_of_ble_eq_true rfl, Nat.le_of_ble_eq_true rfl⟩) rfl rfl rfl (Nat.le_of_ble_eq_true rfl) dX8_count_161 (Nat.zero_le _) (Nat.zero_le _) ?_
                                refine g_if_eq (tgt := 181) C dX8_count_164 (by decide) (fun h24 => ?_) (fun h24 => ?_)
                                · refine g_bipush (v := (-2)) C dX8_count_181 (by decide) ?_
                                  exact g_iret C hret hlk (e1.trans (pr1 (v := (-2)) (w := ω) ((if_neg h1).trans ((if_neg h2).trans ((if_neg h3).trans ((if_neg h4).trans ((if_neg h5).trans ((if_neg h8).trans ((if_neg h11).trans ((if_neg h14).trans ((if_neg h17).trans ((if_neg h18).trans ((if_neg h19).trans ((if_neg h20).trans ((if_neg h21).trans ((if_neg h22).trans ((if_neg h23).trans ((if_pos h24).trans rfl)))))))))))))))))) (e2.trans (pr2 (v := (-2)) (w := ω) ((if_neg h1).trans ((if_neg h2).trans ((if_neg h3).trans ((if_neg h4).trans ((if_neg h5).trans ((if_neg h8).trans ((if_neg h11).trans ((if_neg h14).trans ((if_neg h17).trans ((if_neg h18).trans ((if_neg h19).trans ((if_neg h20).trans ((if_neg h21).trans ((if_neg h22).trans ((if_neg h23).trans ((if_pos h24).trans rfl)))))))))))))))))) dX8_count_183
                                · refine g_aload_n C dX8_count_167 rfl 0 rfl ?_
                                  refine g_get (v := .ref (ad 121)) C iX8 (by decide) (mk_11 (by decide)) rfl 1 (by decide) L7 rfl dX8_count_168 ?_
                                  refine g_bipush (v := 8) C dX8_count_171 (by decide) ?_
                                  refine g_iload_n C dX8_count_173 rfl 1 rfl ?_
                                  have hz25 : w.toNatClampNeg ≤ _ := ((in_rg4 h24).1).2
                                  refine gv_eqS (st' := [.int (nI (w.toNatClampNeg)), .int 8, .ref (ad 121)]) (congrArg (fun z : Int32 => ([Value.int z, .int 8, .ref (ad 121)] : List Value)) ((in_rg4 h24).1).1) ?_
                                  refine g_iadd (v := (nI (8 + w.toNatClampNeg))) C dX8_count_174 (nI_add (8) (w.toNatClampNeg)) ?_
                                  refine g_iconst (v := 4) C dX8_count_175 (by decide) ?_
                                  refine g_isub (v := (nI (8 + w.toNatClampNeg - 4))) C dX8_count_176 (pk_sub (a := 8 + w.toNatClampNeg) (b := 4) (by omega)) ?_
                                  refine g_iald (k := 8 + w.toNatClampNeg - 4) C 0 (by decide) (mk_12n (N := 108) (by decide) (by decide)) rfl (vp_in_nI (n := 8 + w.toNatClampNeg - 4) (by omega) (by decide)) (nI_clamp (n := 8 + w.toNatClampNeg - 4) (by omega)) dX8_count_177 ?_
                                  refine g_goto (tgt := 183) C dX8_count_178 (by decide) ?_
                                  exact g_iret C hret hlk (e1.trans (pr1 (v := (ω 121 (8 + w.toNatClampNeg - 4))) (w := ω) ((if_neg h1).trans ((if_neg h2).trans ((if_neg h3).trans ((if_neg h4).trans ((if_neg h5).trans ((if_neg h8).trans ((if_neg h11).trans ((if_neg h14).trans ((if_neg h17).trans ((if_neg h18).trans ((if_neg h19).trans ((if_neg h20).trans ((if_neg h21).trans ((if_neg h22).trans ((if_neg h23).trans ((if_neg h24).trans rfl)))))))))))))))))) (e2.trans (pr2 (v := (ω 121 (8 + w.toNatClampNeg - 4))) (w := ω) ((if_neg h1).trans ((if_neg h2).trans ((if_neg h3).trans ((if_neg h4).trans ((if_neg h5).trans ((if_neg h8).trans ((if_neg h11).trans ((if_neg h14).trans ((if_neg h17).trans ((if_neg h18).trans ((if_neg h19).trans ((if_neg h20).trans ((if_neg h21).trans ((if_neg h22).trans ((if_neg h23).trans ((if_neg h24).trans rfl)))))))))))))))))) dX8_count_183
def f_X8_count (w : Int32) (ω : Mem) : Int32 × Mem := (f_X8_count_5 w (st ω 120 0 0))
set_option maxRecDepth 100000 in
set_option maxHeartbeats 4000000 in
theorem c_X8_count {l_ : Launch} {sa : Nat → Nat} {D : va_G} {X : Nat → ClassId} {ad : Nat → Nat} (w : Int32) (ω : Mem) (hmi : MIn 10 ω) : CT l_ yX8_count wsX8_count rm_X8_count sa D (tyX X) 128 ad (mk X ad ω) [.ref (ad 120), .int w] (some (.int (f_X8_count w ω).1) : Option Value) (mk X ad (f_X8_count w ω).2) := by
  refine ct_of [(0, .ref (ad 120)), (1, .int w)] (by decide +kernel) rfl rfl (Nat.le_of_ble_eq_true rfl) rfl ?_
  intro p_ e_ s_ m_ args_ below_ meth_ c_ C hret hlk hin
  have e1 : (some (.int (f_X8_count w ω).1) : Option Value) = (some (.int (f_X8_count w ω).1) : Option Value) := rfl
  have e2 : mk X ad (f_X8_count w ω).2 = mk X ad (f_X8_count w ω).2 := rfl
  have iX8 : ∀ w ∈ u_ws RX8 TX8 14, w ∈ wsX8_count := by decide +kernel
  have L31 : Cond.fieldLink RX8 31 (TX8 0).1 (TX8 0).2.1 (TX8 0).2.2.1 ∈ wsX8_count := by decide +kernel
  refine g_aload_n C dX8_count_0 rfl 0 rfl ?_
  refine g_iconst (v := 0) C dX8_count_1 (by decide) ?_
  refine g_put C iX8 tyX8 tyX8_ok nmX8 (by decide) (mk_11 (by decide)) rfl 0 (by decide) L31 rfl rfl rfl (Nat.le_of_ble_eq_true rfl) dX8_count_2 ?_
  refine gv_eqG (mkp_11_0 (by decide)) ?_
  exact k_X8_count_5 w  C hret hlk  (st ω 120 0 0) (MIn_f hmi (by decide)) _ _ (e1.trans (congrArg (fun z : Int32 × Mem => some (Value.int z.1)) rfl)) (e2.trans (congrArg (fun z : Int32 × Mem => mk X ad z.2) rfl))
abbrev rm_X8_setting : Room := { frames := 1, cells := 0, slots := 0, locals := 22 }
theorem md_X8_setting : yX8_setting.cls = RX8 ∧ yX8_setting.cls ≠ "java/lang/invoke/MethodHandle" ∧ yX8_setting.cls ≠ "java/lang/invoke/VarHandle" ∧ (parseMethodDescriptor yX8_setting.desc).map (fun d => d.parameters.length) = some 1 := by decide +kernel
def f_X8_setting_5 (w : Int32) (ω : Mem) : Int32 × Mem := (if (f_X8_in w 0 3 ω) = 0 then ((-1), ω) else ((ω 121 w.toNatClampNeg), ω))
set_option maxRecDepth 100000 in
set_option maxHeartbeats 4000000 in
theorem k_X8_setting_5 {l_ : Launch} {p_ : Program} {e_ : Env} {s_ : State} {m_ : MethodId} {args_ : Array Value} {below_ : List Frame} {meth_ : Method} {c_ : Code} {sa : Nat → Nat} {D : va_G} {X : Nat → ClassId} {ad : Nat → Nat} {G0 : Nat → va_E} (w : Int32) (C : GC p_ rm_X8_setting s_ m_ args_ meth_ c_ cX8_setting 2 wsX8_setting RX8 sa D (tyX X) (va_A (gw 128 ad G0) s_.heap.size)) (hret : meth_.sig.returnType = (some .int)) (hlk : meth_.locks = false) : ∀  (ω : Mem) (hmi : MIn 10 ω) (rv : Option Value) (G2 : Nat → va_E) (e1 : rv = some (.int (f_X8_setting_5 w ω).1)) (e2 : G2 = mk X ad (f_X8_setting_5 w ω).2), GV p_ l_ e_ rm_X8_setting s_ m_ args_ below_ meth_ c_ 0 0 (CQ below_ args_ s_ D 128 ad G0 rv G2) D (va_A (gw 128 ad G0) s_.heap.size) 2 128 ad (mk X ad ω) [(0, .ref (ad 120)), (1, .int w)] 5 [] := by
  have iX8 : ∀ w ∈ u_ws RX8 TX8 14, w ∈ wsX8_setting := by decide +kernel
  have L7 : Cond.fieldLink RX8 7 (TX8 1).1 (TX8 1).2.1 (TX8 1).2.2.1 ∈ wsX8_setting := by decide +kernel
  intro ω hmi rv G2 e1 e2
  refine g_iload_n C dX8_setting_5 rfl 1 rfl ?_
  refine g_iconst (v := 0) C dX8_setting_6 (by decide) ?_
  refine g_iconst (v := 3) C dX8_setting_7 (by decide) ?_
  refine g_callS (rest := []) (st1 := [.int (f_X8_in w 0 3 ω)]) C (c_X8_in w 0 3 ω) (va_cwS 3 C.hts gX8_setting_X8_in rfl rfl rfl md_X8_in.2 ⟨Nat.le_of_ble_eq_true rfl, Nat.le_of_ble_eq_true rfl⟩) rfl rfl rfl (Nat.le_of_ble_eq_true rfl) dX8_setting_8 (Nat.zero_le _) (Nat.zero_le _) ?_
  refine g_if_eq (tgt := 23) C dX8_setting_11 (by decide) (fun h1 => ?_) (fun h1 => ?_)
  · refine g_iconst (v := (-1)) C dX8_setting_23 (by decide) ?_
    exact g_iret C hret hlk (e1.trans (pr1 (v := (-1)) (w := ω) ((if_pos h1).trans rfl))) (e2.trans (pr2 (v := (-1)) (w := ω) ((if_pos h1).trans rfl))) dX8_setting_24
  · refine g_aload_n C dX8_setting_14 rfl 0 rfl ?_
    refine g_get (v := .ref (ad 121)) C iX8 (by decide) (mk_11 (by decide)) rfl 1 (by decide) L7 rfl dX8_setting_15 ?_
    refine g_iload_n C dX8_setting_18 rfl 1 rfl ?_
    refine g_iald (k := w.toNatClampNeg) C 0 (by decide) (mk_12n (N := 108) (by decide) (by decide)) rfl (in_in h1) rfl dX8_setting_19 ?_
    refine g_goto (tgt := 24) C dX8_setting_20 (by decide) ?_
    exact g_iret C hret hlk (e1.trans (pr1 (v := (ω 121 w.toNatClampNeg)) (w := ω) ((if_neg h1).trans rfl))) (e2.trans (pr2 (v := (ω 121 w.toNatClampNeg)) (w := ω) ((if_neg h1).trans rfl))) dX8_setting_24
def f_X8_setting (w : Int32) (ω : Mem) : Int32 × Mem := (f_X8_setting_5 w (st ω 120 0 0))
set_option maxRecDepth 100000 in
set_option maxHeartbeats 4000000 in
theorem c_X8_setting {l_ : Launch} {sa : Nat → Nat} {D : va_G} {X : Nat → ClassId} {ad : Nat → Nat} (w : Int32) (ω : Mem) (hmi : MIn 10 ω) : CT l_ yX8_setting wsX8_setting rm_X8_setting sa D (tyX X) 128 ad (mk X ad ω) [.ref (ad 120), .int w] (some (.int (f_X8_setting w ω).1) : Option Value) (mk X ad (f_X8_setting w ω).2) := by
  refine ct_of [(0, .ref (ad 120)), (1, .int w)] (by decide +kernel) rfl rfl (Nat.le_of_ble_eq_true rfl) rfl ?_
  intro p_ e_ s_ m_ args_ below_ meth_ c_ C hret hlk hin
  have e1 : (some (.int (f_X8_setting w ω).1) : Option Value) = (some (.int (f_X8_setting w ω).1) : Option Value) := rfl
  have e2 : mk X ad (f_X8_setting w ω).2 = mk X ad (f_X8_setting w ω).2 := rfl
  have iX8 : ∀ w ∈ u_ws RX8 TX8 14, w ∈ wsX8_setting := by decide +kernel
  have L31 : Cond.fieldLink RX8 31 (TX8 0).1 (TX8 0).2.1 (TX8 0).2.2.1 ∈ wsX8_setting := by decide +kernel
  refine g_aload_n C dX8_setting_0 rfl 0 rfl ?_
  refine g_iconst (v := 0) C dX8_setting_1 (by decide) ?_
  refine g_put C iX8 tyX8 tyX8_ok nmX8 (by decide) (mk_11 (by decide)) rfl 0 (by decide) L31 rfl rfl rfl (Nat.le_of_ble_eq_true rfl) dX8_setting_2 ?_
  refine gv_eqG (mkp_11_0 (by decide)) ?_
  exact k_X8_setting_5 w  C hret hlk  (st ω 120 0 0) (MIn_f hmi (by decide)) _ _ (e1.trans (congrArg (fun z : Int32 × Mem => some (Value.int z.1)) rfl)) (e2.trans (congrArg (fun z : Int32 × Mem => mk X ad z.2) rfl))
