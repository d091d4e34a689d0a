abbrev rm_X3_makePlaceFor : Room := { frames := 0, cells := 0, slots := 0, locals := 0 }
theorem md_X3_makePlaceFor : yX3_makePlaceFor.cls = RX3 ∧ yX3_makePlaceFor.cls ≠ "java/lang/invoke/MethodHandle" ∧ yX3_makePlaceFor.cls ≠ "java/lang/invoke/VarHandle" ∧ (parseMethodDescriptor yX3_makePlaceFor.desc).map (fun d => d.parameters.length) = some 1 := by decide +kernel
def f_X3_makePlaceFor_5 : Nat → Nat → Int32 → Int32 → Mem → Int32 × Mem
  | 0, _, _, _, ω => (0, ω)
  | fu + 1, i, t, x, ω => (if x ≤ 0 then (x, (st ω i 2 ((ω i 2) + 1))) else (if 12 ≤ x then (x, (st ω i 2 ((ω i 2) + 1))) else (if (ω (i + 1) ((x - 1).toNatClampNeg)) ≤ t then (x, (st ω i 2 ((ω i 2) + 1))) else (f_X3_makePlaceFor_5 fu i t (x + (-1)) (st (st ω (i + 1) x.toNatClampNeg (ω (i + 1) ((x - 1).toNatClampNeg))) (i + 2) x.toNatClampNeg ((st ω (i + 1) x.toNatClampNeg (ω (i + 1) ((x - 1).toNatClampNeg))) (i + 2) ((x - 1).toNatClampNeg)))))))
set_option maxRecDepth 100000 in
set_option maxHeartbeats 4000000 in
theorem k_X3_makePlaceFor_5 {l_ : Launch} {p_ : Program} {e_ : Env} {s_ : State} {m_ : MethodId} {args_ : Array Value} {below_ : List Frame} {meth_ : Method} {c_ : Code} {sa : Nat → Nat} {D : va_G} {X : Nat → ClassId} {ad : Nat → Nat} {G0 : Nat → va_E} (fu : Nat) (i : Nat) (t : Int32) (hi : isPl i) (C : GC p_ rm_X3_makePlaceFor s_ m_ args_ meth_ c_ cX3_makePlaceFor 3 wsX3_makePlaceFor RX3 sa D (tyX X) (va_A (gw 120 ad G0) s_.heap.size)) (hret : meth_.sig.returnType = (some .int)) (hlk : meth_.locks = false) : ∀ (x : Int32) (ω : Mem) (hfuel : (x.toInt < fu ∨ 12 ≤ x.toInt) ∧ 0 < fu) (rv : Option Value) (G2 : Nat → va_E) (e1 : rv = some (.int (f_X3_makePlaceFor_5 fu i t x ω).1)) (e2 : G2 = mk X ad (f_X3_makePlaceFor_5 fu i t x ω).2), GV p_ l_ e_ rm_X3_makePlaceFor s_ m_ args_ below_ meth_ c_ 0 0 (CQ below_ args_ s_ D 120 ad G0 rv G2) D (va_A (gw 120 ad G0) s_.heap.size) 3 120 ad (mk X ad ω) [(0, .ref (ad i)), (1, .int t), (2, .int x)] 5 [] := by
  have iX3 : ∀ w ∈ u_ws RX3 TX3 3, w ∈ wsX3_makePlaceFor := by decide +kernel
  have L13 : Cond.fieldLink RX3 13 (TX3 1).1 (TX3 1).2.1 (TX3 1).2.2.1 ∈ wsX3_makePlaceFor := by decide +kernel
  have L16 : Cond.fieldLink RX3 16 (TX3 2).1 (TX3 2).2.1 (TX3 2).2.2.1 ∈ wsX3_makePlaceFor := by decide +kernel
  have L9 : Cond.fieldLink RX3 9 (TX3 0).1 (TX3 0).2.1 (TX3 0).2.2.1 ∈ wsX3_makePlaceFor := by decide +kernel
  induction fu with
  | zero =>
    intro x ω hfuel rv G2 e1 e2
    exact absurd hfuel (by omega)
  | succ fu ih =>
    intro x ω hfuel rv G2 e1 e2
    refine g_iload_n C dX3_makePlaceFor_5 rfl 2 rfl ?_
    refine g_if_le (tgt := 61) C dX3_makePlaceFor_6 (by decide) (fun h1 => ?_) (fun h1 => ?_)
    · refine g_aload_n C dX3_makePlaceFor_61 rfl 0 rfl ?_
      refine g_dup C dX3_makePlaceFor_62 rfl ?_
      refine g_get (v := .int (ω i 2)) C iX3 (hi).1 (mk_5 (hi).2.1) rfl 2 (by decide) L16 rfl dX3_makePlaceFor_63 ?_
      refine g_iconst (v := 1) C dX3_makePlaceFor_66 (by decide) ?_
      refine g_iadd (v := ((ω i 2) + 1)) C dX3_makePlaceFor_67 rfl ?_
      refine g_put C iX3 tyX3 tyX3_ok nmX3 (hi).1 (mk_5 (hi).2.1) rfl 2 (by decide) L16 rfl rfl rfl (Nat.le_of_ble_eq_true rfl) dX3_makePlaceFor_68 ?_
      refine gv_eqG (mkp_5_2 (hi).2.1) ?_
      refine g_iload_n C dX3_makePlaceFor_71 rfl 2 rfl ?_
      exact g_iret C hret hlk (e1.trans (pr1 (v := x) (w := (st ω i 2 ((ω i 2) + 1))) ((if_pos h1).trans rfl))) (e2.trans (pr2 (v := x) (w := (st ω i 2 ((ω i 2) + 1))) ((if_pos h1).trans rfl))) dX3_makePlaceFor_72
    · refine g_iload_n C dX3_makePlaceFor_9 rfl 2 rfl ?_
      refine g_bipush (v := 12) C dX3_makePlaceFor_10 (by decide) ?_
      refine g_icmp_ge (tgt := 61) C dX3_makePlaceFor_12 (by decide) (fun h2 => ?_) (fun h2 => ?_)
      · refine g_aload_n C dX3_makePlaceFor_61 rfl 0 rfl ?_
        refine g_dup C dX3_makePlaceFor_62 rfl ?_
        refine g_get (v := .int (ω i 2)) C iX3 (hi).1 (mk_5 (hi).2.1) rfl 2 (by decide) L16 rfl dX3_makePlaceFor_63 ?_
        refine g_iconst (v := 1) C dX3_makePlaceFor_66 (by decide) ?_
        refine g_iadd (v := ((ω i 2) + 1)) C dX3_makePlaceFor_67 rfl ?_
        refine g_put C iX3 tyX3 tyX3_ok nmX3 (hi).1 (mk_5 (hi).2.1) rfl 2 (by decide) L16 rfl rfl rfl (Nat.le_of_ble_eq_true rfl) dX3_makePlaceFor_68 ?_
        refine gv_eqG (mkp_5_2 (hi).2.1) ?_
        refine g_iload_n C dX3_makePlaceFor_71 rfl 2 rfl ?_
        exact g_iret C hret hlk (e1.trans (pr1 (v := x) (w := (st ω i 2 ((ω i 2) + 1))) ((if_neg h1).trans ((if_pos h2).trans rfl)))) (e2.trans (pr2 (v := x) (w := (st ω i 2 ((ω i 2) + 1))) ((if_neg h1).trans ((if_pos h2).trans rfl)))) dX3_makePlaceFor_72
      · refine g_aload_n C dX3_makePlaceFor_15 rfl 0 rfl ?_
        refine g_get (v := .ref (ad (i + 1))) C iX3 (hi).1 (mk_5 (hi).2.1) rfl 0 (by decide) L9 rfl dX3_makePlaceFor_16 ?_
        refine g_iload_n C dX3_makePlaceFor_19 rfl 2 rfl ?_
        refine g_iconst (v := 1) C dX3_makePlaceFor_20 (by decide) ?_
        refine g_isub (v := (x - 1)) C dX3_makePlaceFor_21 rfl ?_
        refine g_iald (k := (x - 1).toNatClampNeg) C 0 (hi.2.2.1).1 (mk_12n (N := 12) (hi.2.2.1).2.1 (hi.2.2.1).2.2) rfl (mid12 h1 h2).2.1 rfl dX3_makePlaceFor_22 ?_
        refine g_iload_n C dX3_makePlaceFor_23 rfl 1 rfl ?_
        refine g_icmp_le (tgt := 61) C dX3_makePlaceFor_24 (by decide) (fun h3 => ?_) (fun h3 => ?_)
        · refine g_aload_n C dX3_makePlaceFor_61 rfl 0 rfl ?_
          refine g_dup C dX3_makePlaceFor_62 rfl ?_
          refine g_get (v := .int (ω i 2)) C iX3 (hi).1 (mk_5 (hi).2.1) rfl 2 (by decide) L16 rfl dX3_makePlaceFor_63 ?_
          refine g_iconst (v := 1) C dX3_makePlaceFor_66 (by decide) ?_
          refine g_iadd (v := ((ω i 2) + 1)) C dX3_makePlaceFor_67 rfl ?_
          refine g_put C iX3 tyX3 tyX3_ok nmX3 (hi).1 (mk_5 (hi).2.1) rfl 2 (by decide) L16 rfl rfl rfl (Nat.le_of_ble_eq_true rfl) dX3_makePlaceFor_68 ?_
          refine gv_eqG (mkp_5_2 (hi).2.1) ?_
          refine g_iload_n C dX3_makePlaceFor_71 rfl 2 rfl ?_
          exact g_iret C hret hlk (e1.trans (pr1 (v := x) (w := (st ω i 2 ((ω i 2) + 1))) ((if_neg h1).trans ((if_neg h2).trans ((if_pos h3).trans rfl))))) (e2.trans (pr2 (v := x) (w := (st ω i 2 ((ω i 2) + 1))) ((if_neg h1).trans ((if_neg h2).trans ((if_pos h3).trans rfl))))) dX3_makePlaceFor_72
        · refine g_aload_n C dX3_makePlaceFor_27 rfl 0 rfl ?_
          refine g_get (v := .ref (ad (i + 1))) C iX3 (hi).1 (mk_5 (hi).2.1) rfl 0 (by decide) L9 rfl dX3_makePlaceFor_28 ?_
          refine g_iload_n C dX3_makePlaceFor_31 rfl 2 rfl ?_
          refine g_aload_n C dX3_makePlaceFor_32 rfl 0 rfl ?_
          refine g_get (v := .ref (ad (i + 1))) C iX3 (hi).1 (mk_5 (hi).2.1) rfl 0 (by decide) L9 rfl dX3_makePlaceFor_33 ?_
          refine g_iload_n C dX3_makePlaceFor_36 rfl 2 rfl ?_
          refine g_iconst (v := 1) C dX3_makePlaceFor_37 (by decide) ?_
          refine g_isub (v := (x - 1)) C dX3_makePlaceFor_38 rfl ?_
          refine g_iald (k := (x - 1).toNatClampNeg) C 0 (hi.2.2.1).1 (mk_12n (N := 12) (hi.2.2.1).2.1 (hi.2.2.1).2.2) rfl (mid12 h1 h2).2.1 rfl dX3_makePlaceFor_39 ?_
          refine g_iast (k := x.toNatClampNeg) C 0 (hi.2.2.1).1 (mk_12n (N := 12) (hi.2.2.1).2.1 (hi.2.2.1).2.2) rfl (mid12 h1 h2).1 rfl dX3_makePlaceFor_40 ?_
          refine gv_eqG (mk_row (N := 12) (hi.2.2.1).2.1 (hi.2.2.1).2.2) ?_
          refine g_aload_n C dX3_makePlaceFor_41 rfl 0 rfl ?_
          refine g_get (v := .ref (ad (i + 2))) C iX3 (hi).1 (mk_5 (hi).2.1) rfl 1 (by decide) L13 rfl dX3_makePlaceFor_42 ?_
          refine g_iload_n C dX3_makePlaceFor_45 rfl 2 rfl ?_
          refine g_aload_n C dX3_makePlaceFor_46 rfl 0 rfl ?_
          refine g_get (v := .ref (ad (i + 2))) C iX3 (hi).1 (mk_5 (hi).2.1) rfl 1 (by decide) L13 rfl dX3_makePlaceFor_47 ?_
          refine g_iload_n C dX3_makePlaceFor_50 rfl 2 rfl ?_
          refine g_iconst (v := 1) C dX3_makePlaceFor_51 (by decide) ?_
          refine g_isub (v := (x - 1)) C dX3_makePlaceFor_52 rfl ?_
          refine g_iald (k := (x - 1).toNatClampNeg) C 0 (hi.2.2.2).1 (mk_12n (N := 12) (hi.2.2.2).2.1 (hi.2.2.2).2.2) rfl (mid12 h1 h2).2.1 rfl dX3_makePlaceFor_53 ?_
          refine g_iast (k := x.toNatClampNeg) C 0 (hi.2.2.2).1 (mk_12n (N := 12) (hi.2.2.2).2.1 (hi.2.2.2).2.2) rfl (mid12 h1 h2).1 rfl dX3_makePlaceFor_54 ?_
          refine gv_eqG (mk_row (N := 12) (hi.2.2.2).2.1 (hi.2.2.2).2.2) ?_
          refine g_iinc (k := 2) (v := (x + (-1))) (lv' := [(2, .int (x + (-1))), (0, .ref (ad i)), (1, .int t)]) C dX3_makePlaceFor_55 rfl rfl (by decide) rfl ?_
          refine g_goto (tgt := 5) C dX3_makePlaceFor_58 (by decide) ?_
          refine gv_lv (lv' := [(0, .ref (ad i)), (1, .int t), (2, .int (x + (-1)))]) [1, 2, 0] rfl ?_
          exact ih (x + (-1)) (st (st ω (i + 1) x.toNatClampNeg (ω (i + 1) ((x - 1).toNatClampNeg))) (i + 2) x.toNatClampNeg ((st ω (i + 1) x.toNatClampNeg (ω (i + 1) ((x - 1).toNatClampNeg))) (i + 2) ((x - 1).toNatClampNeg))) (by have q1 := (mid12 h1 h2).2.2.1; have q2 := (mid12 h1 h2).2.2.2.2; omega) _ _ (e1.trans (congrArg (fun z : Int32 × Mem => some (Value.int z.1)) ((if_neg h1).trans ((if_neg h2).trans ((if_neg h3).trans rfl))))) (e2.trans (congrArg (fun z : Int32 × Mem => mk X ad z.2) ((if_neg h1).trans ((if_neg h2).trans ((if_neg h3).trans rfl)))))
def f_X3_makePlaceFor (i : Nat) (t : Int32) (ω : Mem) : Int32 × Mem := (f_X3_makePlaceFor_5 13 i t (ω i 2) ω)
set_option maxRecDepth 100000 in
set_option maxHeartbeats 4000000 in
theorem c_X3_makePlaceFor {l_ : Launch} {sa : Nat → Nat} {D : va_G} {X : Nat → ClassId} {ad : Nat → Nat} (i : Nat) (t : Int32) (hi : isPl i) (ω : Mem)  : CT l_ yX3_makePlaceFor wsX3_makePlaceFor rm_X3_makePlaceFor sa D (tyX X) 120 ad (mk X ad ω) [.ref (ad i), .int t] (some (.int (f_X3_makePlaceFor i t ω).1) : Option Value) (mk X ad (f_X3_makePlaceFor i t ω).2) := by
  refine ct_of [(0, .ref (ad i)), (1, .int t)] (by decide +kernel) rfl rfl (Nat.le_of_ble_eq_true rfl) rfl ?_
  intro p_ e_ s_ m_ args_ below_ meth_ c_ C hret hlk hin
  have e1 : (some (.int (f_X3_makePlaceFor i t ω).1) : Option Value) = (some (.int (f_X3_makePlaceFor i t ω).1) : Option Value) := rfl
  have e2 : mk X ad (f_X3_makePlaceFor i t ω).2 = mk X ad (f_X3_makePlaceFor i t ω).2 := rfl
  have iX3 : ∀ w ∈ u_ws RX3 TX3 3, w ∈ wsX3_makePlaceFor := by decide +kernel
  have L16 : Cond.fieldLink RX3 16 (TX3 2).1 (TX3 2).2.1 (TX3 2).2.2.1 ∈ wsX3_makePlaceFor := by decide +kernel
  refine g_aload_n C dX3_makePlaceFor_0 rfl 0 rfl ?_
  refine g_get (v := .int (ω i 2)) C iX3 (hi).1 (mk_5 (hi).2.1) rfl 2 (by decide) L16 rfl dX3_makePlaceFor_1 ?_
  refine g_istore_n (lv' := [(2, .int (ω i 2)), (0, .ref (ad i)), (1, .int t)]) C dX3_makePlaceFor_4 rfl (by decide) rfl ?_
  refine gv_lv (lv' := [(0, .ref (ad i)), (1, .int t), (2, .int (ω i 2))]) [1, 2, 0] rfl ?_
  exact k_X3_makePlaceFor_5 (13) i t hi C hret hlk (ω i 2) ω (by omega) _ _ (e1.trans (congrArg (fun z : Int32 × Mem => some (Value.int z.1)) rfl)) (e2.trans (congrArg (fun z : Int32 × Mem => mk X ad z.2) rfl))
abbrev rm_X3_put : Room := { frames := 2, cells := 0, slots := 0, locals := 43 }
theorem md_X3_put : yX3_put.cls = RX3 ∧ yX3_put.cls ≠ "java/lang/invoke/MethodHandle" ∧ yX3_put.cls ≠ "java/lang/invoke/VarHandle" ∧ (parseMethodDescriptor yX3_put.desc).map (fun d => d.parameters.length) = some 2 := by decide +kernel
def f_X3_put (i : Nat) (t : Int32) (d : Int32) (ω : Mem) : Int32 × Mem := (if (f_X3_hasRoomFor i t ω) = 0 then (0, ω) else (if (f_X3_placeOf i t ω) = (ω i 2) then (if (f_X3_makePlaceFor i t ω).1 < 0 then (1, (f_X3_makePlaceFor i t ω).2) else (if 12 ≤ (f_X3_makePlaceFor i t ω).1 then (1, (f_X3_makePlaceFor i t ω).2) else (1, (st (st (f_X3_makePlaceFor i t ω).2 (i + 1) ((f_X3_makePlaceFor i t ω).1.toNatClampNeg) t) (i + 2) ((f_X3_makePlaceFor i t ω).1.toNatClampNeg) d)))) else (if (f_X3_placeOf i t ω) < 0 then (1, ω) else (if 12 ≤ (f_X3_placeOf i t ω) then (1, ω) else (1, (st (st ω (i + 1) ((f_X3_placeOf i t ω).toNatClampNeg) t) (i + 2) ((f_X3_placeOf i t ω).toNatClampNeg) d))))))
set_option maxRecDepth 100000 in
set_option maxHeartbeats 4000000 in
theorem c_X3_put {l_ : Launch} {sa : Nat → Nat} {D : va_G} {X : Nat → ClassId} {ad : Nat → Nat} (i : Nat) (t : Int32) (d : Int32) (hi : isPl i) (ω : Mem)  : CT l_ yX3_put wsX3_put rm_X3_put sa D (tyX X) 120 ad (mk X ad ω) [.ref (ad i), .int t, .int d] (some (.int (f_X3_put i t d ω).1) : Option Value) (mk X ad (f_X3_put i t d ω).2) := by
  refine ct_of [(0, .ref (ad i)), (1, .int t), (2, .int d)] (by decide +kernel) rfl rfl (Nat.le_of_ble_eq_true rfl) rfl ?_
  intro p_ e_ s_ m_ args_ below_ meth_ c_ C hret hlk hin
  have e1 : (some (.int (f_X3_put i t d ω).1) : Option Value) = (some (.int (f_X3_put i t d ω).1) : Option Value) := rfl
  have e2 : mk X ad (f_X3_put i t d ω).2 = mk X ad (f_X3_put i t d ω).2 := rfl
  have iX3 : ∀ w ∈ u_ws RX3 TX3 3, w ∈ wsX3_put := by decide +kernel
  have L13 : Cond.fieldLink RX3 13 (TX3 1).1 (TX3 1).2.1 (TX3 1).2.2.1 ∈ wsX3_put := by decide +kernel
  have L16 : Cond.fieldLink RX3 16 (TX3 2).1 (TX3 2).2.1 (TX3 2).2.2.1 ∈ wsX3_put := by decide +kernel
  have L9 : Cond.fieldLink RX3 9 (TX3 0).1 (TX3 0).2.1 (TX3 0).2.2.1 ∈ wsX3_put := by decide +kernel
  refine g_aload_n C dX3_put_0 rfl 0 rfl ?_
  refine g_iload_n C dX3_put_1 rfl 1 rfl ?_
  refine g_callV (rest := []) (st1 := [.int (f_X3_hasRoomFor i t ω)]) C (c_X3_hasRoomFor i t hi ω) (cwV 1 C.hts gX3_put_X3_hasRoomFor rfl rfl rfl md_X3_hasRoomFor ⟨Nat.le_of_ble_eq_true rfl, Nat.le_of_ble_eq_true rfl⟩) (hi).1 (mk_5 (hi).2.1) rfl rfl rfl rfl rfl (Nat.le_of_ble_eq_true rfl) dX3_put_2 (Nat.zero_le _) (Nat.zero_le _) ?_
  refine g_if_ne (tgt := 10) C dX3_put_5 (by decide) (fun h1 => ?_) (fun h1 => ?_)
  · refine g_aload_n C dX3_put_10 rfl 0 rfl ?_
    refine g_iload_n C dX3_put_11 rfl 1 rfl ?_
    refine g_callV (rest := []) (st1 := [.int (f_X3_placeOf i t ω)]) C (c_X3_placeOf i t hi ω) (cwV 1 C.hts gX3_put_X3_placeOf rfl rfl rfl md_X3_placeOf ⟨Nat.le_of_ble_eq_true rfl, Nat.le_of_ble_eq_true rfl⟩) (hi).1 (mk_5 (hi).2.1) rfl rfl rfl rfl rfl (Nat.le_of_ble_eq_true rfl) dX3_put_12 (Nat.zero_le _) (Nat.zero_le _) ?_
    refine g_istore_n (lv' := [(3, .int (f_X3_placeOf i t ω)), (0, .ref (ad i)), (1, .int t), (2, .int d)]) C dX3_put_15 rfl (by decide) rfl ?_
    refine g_iload_n C dX3_put_16 rfl 0 rfl ?_
    refine g_aload_n C dX3_put_17 rfl 1 rfl ?_
    refine g_get (v := .int (ω i 2)) C iX3 (hi).1 (mk_5 (hi).2.1) rfl 2 (by decide) L16 rfl dX3_put_18 ?_
    refine g_icmp_ne (tgt := 30) C dX3_put_21 (by decide) (fun h2 => ?_) (fun h2 => ?_)
    · refine g_iload_n C dX3_put_30 rfl 0 rfl ?_
      refine g_if_lt (tgt := 54) C dX3_put_31 (by decide) (fun h3 => ?_) (fun h3 => ?_)
      · refine g_iconst (v := 1) C dX3_put_54 (by decide) ?_
        exact g_zret C hret hlk (nar_b (by decide)).1 (e1.trans (pr1 (v := 1) (w := ω) ((if_neg h1).trans ((if_neg h2).trans ((if_pos h3).trans rfl))))) (e2.trans (pr2 (v := 1) (w := ω) ((if_neg h1).trans ((if_neg h2).trans ((if_pos h3).trans rfl))))) dX3_put_55
      · refine g_iload_n C dX3_put_34 rfl 0 rfl ?_
        refine g_bipush (v := 12) C dX3_put_35 (by decide) ?_
        refine g_icmp_ge (tgt := 54) C dX3_put_37 (by decide) (fun h4 => ?_) (fun h4 => ?_)
        · refine g_iconst (v := 1) C dX3_put_54 (by decide) ?_
          exact g_zret C hret hlk (nar_b (by decide)).1 (e1.trans (pr1 (v := 1) (w := ω) ((if_neg h1).trans ((if_neg h2).trans ((if_neg h3).trans ((if_pos h4).trans rfl)))))) (e2.trans (pr2 (v := 1) (w := ω) ((if_neg h1).trans ((if_neg h2).trans ((if_neg h3).trans ((if_pos h4).trans rfl)))))) dX3_put_55
        · refine g_aload_n C dX3_put_40 rfl 1 rfl ?_
          refine g_get (v := .ref (ad (i + 1))) C iX3 (hi).1 (mk_5 (hi).2.1) rfl 0 (by decide) L9 rfl dX3_put_41 ?_
          refine g_iload_n C dX3_put_44 rfl 0 rfl ?_
          refine g_iload_n C dX3_put_45 rfl 2 rfl ?_
          refine g_iast (k := (f_X3_placeOf i t ω).toNatClampNeg) C 0 (hi.2.2.1).1 (mk_12n (N := 12) (hi.2.2.1).2.1 (hi.2.2.1).2.2) rfl (vp_in_of2 h3 h4 rfl) rfl dX3_put_46 ?_
          refine gv_eqG (mk_row (N := 12) (hi.2.2.1).2.1 (hi.2.2.1).2.2) ?_
          refine g_aload_n C dX3_put_47 rfl 1 rfl ?_
          refine g_get (v := .ref (ad (i + 2))) C iX3 (hi).1 (mk_5 (hi).2.1) rfl 1 (by decide) L13 rfl dX3_put_48 ?_
          refine g_iload_n C dX3_put_51 rfl 0 rfl ?_
          refine g_iload_n C dX3_put_52 rfl 3 rfl ?_
          refine g_iast (k := (f_X3_placeOf i t ω).toNatClampNeg) C 0 (hi.2.2.2).1 (mk_12n (N := 12) (hi.2.2.2).2.1 (hi.2.2.2).2.2) rfl (vp_in_of2 h3 h4 rfl) rfl dX3_put_53 ?_
          refine gv_eqG (mk_row (N := 12) (hi.2.2.2).2.1 (hi.2.2.2).2.2) ?_
          refine g_iconst (v := 1) C dX3_put_54 (by decide) ?_
          exact g_zret C hret hlk (nar_b (by decide)).1 (e1.trans (pr1 (v := 1) (w := (st (st ω (i + 1) ((f_X3_placeOf i t ω).toNatClampNeg) t) (i + 2) ((f_X3_placeOf i t ω).toNatClampNeg) d)) ((if_neg h1).trans ((if_neg h2).trans ((if_neg h3).trans ((if_neg h4).trans rfl)))))) (e2.trans (pr2 (v := 1) (w := (st (st ω (i + 1) ((f_X3_placeOf i t ω).toNatClampNeg) t) (i + 2) ((f_X3_placeOf i t ω).toNatClampNeg) d)) ((if_neg h1).trans ((if_neg h2).trans ((if_neg h3).trans ((if_neg h4).trans rfl)))))) dX3_put_55
    · refine g_aload_n C dX3_put_24 rfl 1 rfl ?_
      refine g_iload_n C dX3_put_25 rfl 2 rfl ?_
      refine g_callV (rest := []) (st1 := [.int (f_X3_makePlaceFor i t ω).1]) C (c_X3_makePlaceFor i t hi ω) (cwV 1 C.hts gX3_put_X3_makePlaceFor rfl rfl rfl md_X3_makePlaceFor ⟨Nat.le_of_ble_eq_true rfl, Nat.le_of_ble_eq_true rfl⟩) (hi).1 (mk_5 (hi).2.1) rfl rfl rfl rfl rfl (Nat.le_of_ble_eq_true rfl) dX3_put_26 (Nat.zero_le _) (Nat.zero_le _) ?_
      refine g_istore_n (lv' := [(3, .int (f_X3_makePlaceFor i t ω).1), (0, .ref (ad i)), (1, .int t), (2, .int d)]) C dX3_put_29 rfl (by decide) rfl ?_
      refine g_iload_n C dX3_put_30 rfl 0 rfl ?_
      refine g_if_lt (tgt := 54) C dX3_put_31 (by decide) (fun h5 => ?_) (fun h5 => ?_)
      · refine g_iconst (v := 1) C dX3_put_54 (by decide) ?_
        exact g_zret C hret hlk (nar_b (by decide)).1 (e1.trans (pr1 (v := 1) (w := (f_X3_makePlaceFor i t ω).2) ((if_neg h1).trans ((if_pos h2).trans ((if_pos h5).trans rfl))))) (e2.trans (pr2 (v := 1) (w := (f_X3_makePlaceFor i t ω).2) ((if_neg h1).trans ((if_pos h2).trans ((if_pos h5).trans rfl))))) dX3_put_55
      · refine g_iload_n C dX3_put_34 rfl 0 rfl ?_
        refine g_bipush (v := 12) C dX3_put_35 (by decide) ?_
        refine g_icmp_ge (tgt := 54) C dX3_put_37 (by decide) (fun h6 => ?_) (fun h6 => ?_)
        · refine g_iconst (v := 1) C dX3_put_54 (by decide) ?_
          exact g_zret C hret hlk (nar_b (by decide)).1 (e1.trans (pr1 (v := 1) (w := (f_X3_makePlaceFor i t ω).2) ((if_neg h1).trans ((if_pos h2).trans ((if_neg h5).trans ((if_pos h6).trans rfl)))))) (e2.trans (pr2 (v := 1) (w := (f_X3_makePlaceFor i t ω).2) ((if_neg h1).trans ((if_pos h2).trans ((if_neg h5).trans ((if_pos h6).trans rfl)))))) dX3_put_55
        · refine g_aload_n C dX3_put_40 rfl 1 rfl ?_
          refine g_get (v := .ref (ad (i + 1))) C iX3 (hi).1 (mk_5 (hi).2.1) rfl 0 (by decide) L9 rfl dX3_put_41 ?_
          refine g_iload_n C dX3_put_44 rfl 0 rfl ?_
          refine g_iload_n C dX3_put_45 rfl 2 rfl ?_
          refine g_iast (k := (f_X3_makePlaceFor i t ω).1.toNatClampNeg) C 0 (hi.2.2.1).1 (mk_12n (N := 12) (hi.2.2.1).2.1 (hi.2.2.1).2.2) rfl (vp_in_of2 h5 h6 rfl) rfl dX3_put_46 ?_
          refine gv_eqG (mk_row (N := 12) (hi.2.2.1).2.1 (hi.2.2.1).2.2) ?_
          refine g_aload_n C dX3_put_47 rfl 1 rfl ?_
          refine g_get (v := .ref (ad (i + 2))) C iX3 (hi).1 (mk_5 (hi).2.1) rfl 1 (by decide) L13 rfl dX3_put_48 ?_
          refine g_iload_n C dX3_put_51 rfl 0 rfl ?_
          refine g_iload_n C dX3_put_52 rfl 3 rfl ?_
          refine g_iast (k := (f_X3_makePlaceFor i t ω).1.toNatClampNeg) C 0 (hi.2.2.2).1 (mk_12n (N := 12) (hi.2.2.2).2.1 (hi.2.2.2).2.2) rfl (vp_in_of2 h5 h6 rfl) rfl dX3_put_53 ?_
          refine gv_eqG (mk_row (N := 12) (hi.2.2.2).2.1 (hi.2.2.2).2.2) ?_
          refine g_iconst (v := 1) C dX3_put_54 (by decide) ?_
          exact g_zret C hret hlk (nar_b (by decide)).1 (e1.trans (pr1 (v := 1) (w := (st (st (f_X3_makePlaceFor i t ω).2 (i + 1) ((f_X3_makePlaceFor i t ω).1.toNatClampNeg) t) (i + 2) ((f_X3_makePlaceFor i t ω).1.toNatClampNeg) d)) ((if_neg h1).trans ((if_pos h2).trans ((if_neg h5).trans ((if_neg h6).trans rfl)))))) (e2.trans (pr2 (v := 1) (w := (st (st (f_X3_makePlaceFor i t ω).2 (i + 1) ((f_X3_makePlaceFor i t ω).1.toNatClampNeg) t) (i + 2) ((f_X3_makePlaceFor i t ω).1.toNatClampNeg) d)) ((if_neg h1).trans ((if_pos h2).trans ((if_neg h5).trans ((if_neg h6).trans rfl)))))) dX3_put_55
  · refine g_iconst (v := 0) C dX3_put_8 (by decide) ?_
    exact g_zret C hret hlk (nar_b (by decide)).1 (e1.trans (pr1 (v := 0) (w := ω) ((if_pos h1).trans rfl))) (e2.trans (pr2 (v := 0) (w := ω) ((if_pos h1).trans rfl))) dX3_put_9
def f_X6_isDigit (c : Int32) (ω : Mem) : Int32 := (if c < 48 then 0 else (if 57 < c then 0 else 1))
theorem z_X6_isDigit {c : Int32} {ω : Mem} : bb (f_X6_isDigit c ω) = f_X6_isDigit c ω := by
  unfold f_X6_isDigit
  repeat' split
  all_goals first | with_reducible exact bb_bb _ | decide
def f_X6_placeAfter (p : Int32) (c : Int32) (ω : Mem) : Int32 := (if p = 0 then (if c = 48 then 4 else (if (f_X6_isDigit c ω) = 0 then 7 else 1)) else (if p = 1 then (if (f_X6_isDigit c ω) = 0 then (if c = 58 then 5 else 7) else (p + 1)) else (if p = 2 then (if (f_X6_isDigit c ω) = 0 then (if c = 58 then 5 else 7) else (p + 1)) else (if p = 3 then (if (f_X6_isDigit c ω) = 0 then (if c = 58 then 5 else 7) else (p + 1)) else (if p = 4 then (if c = 58 then 5 else 7) else (if p = 5 then (if (f_X6_isDigit c ω) = 0 then 7 else 6) else (if p = 6 then (if c = 44 then 0 else 7) else 7)))))))
def f_X6_append (c : Int32) (ω : Mem) : Int32 × Mem := (if (ω 118 1) < 0 then (0, ω) else (if (ω 118 1) < 60 then (1, (st (st ω 119 ((ω 118 1).toNatClampNeg) (vp_nar .char c)) 118 1 (((st ω 119 ((ω 118 1).toNatClampNeg) (vp_nar .char c)) 118 1) + 1))) else (0, ω)))
def f_X6_empty  (ω : Mem) : Mem := (st ω 118 1 0)
def f_X6_fault_4 : Nat → Int32 → Nat → Mem → Int32
  | 0, _, _, _ => 0
  | fu + 1, p, j, ω => (if (ω 118 1) ≤ (nI (j)) then (if p = 6 then (-1) else (ω 118 1)) else (if 60 ≤ j then (if p = 6 then (-1) else (ω 118 1)) else (if (f_X6_placeAfter p (ω 119 j) ω) = 7 then (nI (j)) else (f_X6_fault_4 fu (f_X6_placeAfter p (ω 119 j) ω) (j + 1) ω))))
def f_X6_fault  (ω : Mem) : Int32 := (f_X6_fault_4 61 0 0 ω)
def f_X6_readInto_11 : Nat → Nat → Int32 → Int32 → Nat → Mem → Int32 × Mem
  | 0, _, _, _, _, ω => (0, ω)
  | fu + 1, i, t, w, j, ω => (if (ω 118 1) ≤ (nI (j)) then (1, ω) else (if 60 ≤ j then (1, ω) else (if (ω 119 j) = 58 then (f_X6_readInto_11 fu i t 1 (j + 1) ω) else (if (ω 119 j) = 44 then (f_X6_readInto_11 fu i 0 0 (j + 1) ω) else (if w = 0 then (f_X6_readInto_11 fu i ((t * 10) + ((ω 119 j) - 48)) w (j + 1) ω) else (if (f_X3_put i t ((ω 119 j) - 48) ω).1 = 0 then (0, (f_X3_put i t ((ω 119 j) - 48) ω).2) else (f_X6_readInto_11 fu i t w (j + 1) (f_X3_put i t ((ω 119 j) - 48) ω).2)))))))
def f_X6_readInto (i : Nat) (ω : Mem) : Int32 × Mem := (f_X6_readInto_11 61 i 0 0 0 (f_X3_clear i ω))
