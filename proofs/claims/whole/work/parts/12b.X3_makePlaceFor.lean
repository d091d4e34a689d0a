abbrev rm_X3_makePlaceFor : Room := { frames := 0, cells := 0, slots := 0, locals := 0 }
theorem md_X3_makePlaceFor : yX3_makePlaceFor.cls = RX3 ∧ yX3_makePlaceFor.cls ≠ "java/lang/invoke/MethodHandle" ∧ yX3_makePlaceFor.cls ≠ "java/lang/invoke/VarHandle" ∧ (parseMethodDescriptor yX3_makePlaceFor.desc).map (fun d => d.parameters.length) = some 1 := by decide +kernel
def f_X3_makePlaceFor_5 : Nat → Nat → Int32 → Int32 → Mem → Int32 × Mem
  | 0, _, _, _, ω => (0, ω)
  | fu + 1, i, t, x, ω => (if x ≤ 0 then (x, (st ω i 2 ((ω i 2) + 1))) else (if 12 ≤ x then (x, (st ω i 2 ((ω i 2) + 1))) else (if (ω (i + 1) ((x - 1).toNatClampNeg)) ≤ t then (x, (st ω i 2 ((ω i 2) + 1))) else (f_X3_makePlaceFor_5 fu i t (x + (-1)) (st (st ω (i + 1) x.toNatClampNeg (ω (i + 1) ((x - 1).toNatClampNeg))) (i + 2) x.toNatClampNeg ((st ω (i + 1) x.toNatClampNeg (ω (i + 1) ((x - 1).toNatClampNeg))) (i + 2) ((x - 1).toNatClampNeg)))))))
set_option maxRecDepth 100000 in
set_option maxHeartbeats 4000000 in
theorem k_X3_makePlaceFor_5 {l_ : Launch} {p_ : Program} {e_ : Env} {s_ : State} {m_ : MethodId} {args_ : Array Value} {below_ : List Frame} {meth_ : Method} {c_ : Code} {sa : Nat → Nat} {D : va_G} {X : Nat → ClassId} {ad : Nat → Nat} {G0 : Nat → va_E} (fu : Nat) (i : Nat) (t : Int32) (hi : isPl i) (C : GC p_ rm_X3_makePlaceFor s_ m_ args_ meth_ c_ cX3_makePlaceFor 3 wsX3_makePlaceFor RX3 sa D (tyX X) (va_A (gw 128 ad G0) s_.heap.size)) (hret : meth_.sig.returnType = (some .int)) (hlk : meth_.locks = false) : ∀ (x : Int32) (ω : Mem) (hfuel : (x.toInt < fu ∨ 12 ≤ x.toInt) ∧ 0 < fu) (rv : Option Value) (G2 : Nat → va_E) (e1 : rv = some (.int (f_X3_makePlaceFor_5 fu i t x ω).1)) (e2 : G2 = mk X ad (f_X3_makePlaceFor_5 fu i t x ω).2), GV p_ l_ e_ rm_X3_makePlaceFor s_ m_ args_ below_ meth_ c_ 0 0 (CQ below_ args_ s_ D 128 ad G0 rv G2) D (va_A (gw 128 ad G0) s_.heap.size) 3 128 ad (mk X ad ω) [(0, .ref (ad i)), (1, .int t), (2, .int x)] 5 [] := by
  have iX3 : ∀ w ∈ u_ws RX3 TX3 3, w ∈ wsX3_makePlaceFor := by decide +kernel
  have L13 : Cond.fieldLink RX3 13 (TX3 1).1 (TX3 1).2.1 (TX3 1).2.2.1 ∈ wsX3_makePlaceFor := by decide +kernel
  have L16 : Cond.fieldLink RX3 16 (TX3 2).1 (TX3 2).2.1 (TX3 2).2.2.1 ∈ wsX3_makePlaceFor := by decide +kernel
  have L9 : Cond.fieldLink RX3 9 (TX3 0).1 (TX3 0).2.1 (TX3 0).2.2.1 ∈ wsX3_makePlaceFor := by decide +kernel
  induction fu with
  | zero =>
    intro x ω hfuel rv G2 e1 e2
    exact absurd hfuel (by omega)
  | succ fu ih =>
    intro x ω hfuel rv G2 e1 e2
    refine g_iload_n C dX3_makePlaceFor_5 rfl 2 rfl ?_
    refine g_if_le (tgt := 61) C dX3_makePlaceFor_6 (by decide) (fun h1 => ?_) (fun h1 => ?_)
    · refine g_aload_n C dX3_makePlaceFor_61 rfl 0 rfl ?_
      refine g_dup C dX3_makePlaceFor_62 rfl ?_
      refine g_get (v := .int (ω i 2)) C iX3 (hi).1 (mk_5 (hi).2.1) rfl 2 (by decide) L16 rfl dX3_makePlaceFor_63 ?_
      refine g_iconst (v := 1) C dX3_makePlaceFor_66 (by decide) ?_
      refine g_iadd (v := ((ω i 2) + 1)) C dX3_makePlaceFor_67 rfl ?_
      refine g_put C iX3 tyX3 tyX3_ok nmX3 (hi).1 (mk_5 (hi).2.1) rfl 2 (by decide) L16 rfl rfl rfl (Nat.le_of_ble_eq_true rfl) dX3_makePlaceFor_68 ?_
      refine gv_eqG (mkp_5_2 (hi).2.1) ?_
      refine g_iload_n C dX3_makePlaceFor_71 rfl 2 rfl ?_
      exact g_iret C hret hlk (e1.trans (pr1 (v := x) (w := (st ω i 2 ((ω i 2) + 1))) ((if_pos h1).trans rfl))) (e2.trans (pr2 (v := x) (w := (st ω i 2 ((ω i 2) + 1))) ((if_pos h1).trans rfl))) dX3_makePlaceFor_72
    · refine g_iload_n C dX3_makePlaceFor_9 rfl 2 rfl ?_
      refine g_bipush (v := 12) C dX3_makePlaceFor_10 (by decide) ?_
      refine g_icmp_ge (tgt := 61) C dX3_makePlaceFor_12 (by decide) (fun h2 => ?_) (fun h2 => ?_)
      · refine g_aload_n C dX3_makePlaceFor_61 rfl 0 rfl ?_
        refine g_dup C dX3_makePlaceFor_62 rfl ?_
        refine g_get (v := .int (ω i 2)) C iX3 (hi).1 (mk_5 (hi).2.1) rfl 2 (by decide) L16 rfl dX3_makePlaceFor_63 ?_
        refine g_iconst (v := 1) C dX3_makePlaceFor_66 (by decide) ?_
        refine g_iadd (v := ((ω i 2) + 1)) C dX3_makePlaceFor_67 rfl ?_
        refine g_put C iX3 tyX3 tyX3_ok nmX3 (hi).1 (mk_5 (hi).2.1) rfl 2 (by decide) L16 rfl rfl rfl (Nat.le_of_ble_eq_true rfl) dX3_makePlaceFor_68 ?_
        refine gv_eqG (mkp_5_2 (hi).2.1) ?_
        refine g_iload_n C dX3_makePlaceFor_71 rfl 2 rfl ?_
        exact g_iret C hret hlk (e1.trans (pr1 (v := x) (w := (st ω i 2 ((ω i 2) + 1))) ((if_neg h1).trans ((if_pos h2).trans rfl)))) (e2.trans (pr2 (v := x) (w := (st ω i 2 ((ω i 2) + 1))) ((if_neg h1).trans ((if_pos h2).trans rfl)))) dX3_makePlaceFor_72
      · refine g_aload_n C dX3_makePlaceFor_15 rfl 0 rfl ?_
        refine g_get (v := .ref (ad (i + 1))) C iX3 (hi).1 (mk_5 (hi).2.1) rfl 0 (by decide) L9 rfl dX3_makePlaceFor_16 ?_
        refine g_iload_n C dX3_makePlaceFor_19 rfl 2 rfl ?_
        refine g_iconst (v := 1) C dX3_makePlaceFor_20 (by decide) ?_
        refine g_isub (v := (x - 1)) C dX3_makePlaceFor_21 rfl ?_
        refine g_iald (k := (x - 1).toNatClampNeg) C 0 (hi.2.2.1).1 (mk_12n (N := 12) (hi.2.2.1).2.1 (hi.2.2.1).2.2) rfl (mid12 h1 h2).2.1 rfl dX3_makePlaceFor_22 ?_
        refine g_iload_n C dX3_makePlaceFor_23 rfl 1 rfl ?_
        refine g_icmp_le (tgt := 61) C dX3_makePlaceFor_24 (by decide) (fun h3 => ?_) (fun h3 => ?_)
        · refine g_aload_n C dX3_makePlaceFor_61 rfl 0 rfl ?_
          refine g_dup C dX3_makePlaceFor_62 rfl ?_
          refine g_get (v := .int (ω i 2)) C iX3 (hi).1 (mk_5 (hi).2.1) rfl 2 (by decide) L16 rfl dX3_makePlaceFor_63 ?_
          refine g_iconst (v := 1) C dX3_makePlaceFor_66 (by decide) ?_
          refine g_iadd (v := ((ω i 2) + 1)) C dX3_makePlaceFor_67 rfl ?_
          refine g_put C iX3 tyX3 tyX3_ok nmX3 (hi).1 (mk_5 (hi).2.1) rfl 2 (by decide) L16 rfl rfl rfl (Nat.le_of_ble_eq_true rfl) dX3_makePlaceFor_68 ?_
          refine gv_eqG (mkp_5_2 (hi).2.1) ?_
          refine g_iload_n C dX3_makePlaceFor_71 rfl 2 rfl ?_
          exact g_iret C hret hlk (e1.trans (pr1 (v := x) (w := (st ω i 2 ((ω i 2) + 1))) ((if_neg h1).trans ((if_neg h2).trans ((if_pos h3).trans rfl))))) (e2.trans (pr2 (v := x) (w := (st ω i 2 ((ω i 2) + 1))) ((if_neg h1).trans ((if_neg h2).trans ((if_pos h3).trans rfl))))) dX3_makePlaceFor_72
        · refine g_aload_n C dX3_makePlaceFor_27 rfl 0 rfl ?_
          refine g_get (v := .ref (ad (i + 1))) C iX3 (hi).1 (mk_5 (hi).2.1) rfl 0 (by decide) L9 rfl dX3_makePlaceFor_28 ?_
          refine g_iload_n C dX3_makePlaceFor_31 rfl 2 rfl ?_
          refine g_aload_n C dX3_makePlaceFor_32 rfl 0 rfl ?_
          refine g_get (v := .ref (ad (i + 1))) C iX3 (hi).1 (mk_5 (hi).2.1) rfl 0 (by decide) L9 rfl dX3_makePlaceFor_33 ?_
          refine g_iload_n C dX3_makePlaceFor_36 rfl 2 rfl ?_
          refine g_iconst (v := 1) C dX3_makePlaceFor_37 (by decide) ?_
          refine g_isub (v := (x - 1)) C dX3_makePlaceFor_38 rfl ?_
          refine g_iald (k := (x - 1).toNatClampNeg) C 0 (hi.2.2.1).1 (mk_12n (N := 12) (hi.2.2.1).2.1 (hi.2.2.1).2.2) rfl (mid12 h1 h2).2.1 rfl dX3_makePlaceFor_39 ?_
          refine g_iast (k := x.toNatClampNeg) C 0 (hi.2.2.1).1 (mk_12n (N := 12) (hi.2.2.1).2.1 (hi.2.2.1).2.2) rfl (mid12 h1 h2).1 rfl dX3_makePlaceFor_40 ?_
          refine gv_eqG (mk_row (N := 12) (hi.2.2.1).2.1 (hi.2.2.1).2.2) ?_
          refine g_aload_n C dX3_makePlaceFor_41 rfl 0 rfl ?_
          refine g_get (v := .ref (ad (i + 2))) C iX3 (hi).1 (mk_5 (hi).2.1) rfl 1 (by decide) L13 rfl dX3_makePlaceFor_42 ?_
          refine g_iload_n C dX3_makePlaceFor_45 rfl 2 rfl ?_
          refine g_aload_n C dX3_makePlaceFor_46 rfl 0 rfl ?_
          refine g_get (v := .ref (ad (i + 2))) C iX3 (hi).1 (mk_5 (hi).2.1) rfl 1 (by decide) L13 rfl dX3_makePlaceFor_47 ?_
          refine g_iload_n C dX3_makePlaceFor_50 rfl 2 rfl ?_
          refine g_iconst (v := 1) C dX3_makePlaceFor_51 (by decide) ?_
          refine g_isub (v := (x - 1)) C dX3_makePlaceFor_52 rfl ?_
          refine g_iald (k := (x - 1).toNatClampNeg) C 0 (hi.2.2.2).1 (mk_12n (N := 12) (hi.2.2.2).2.1 (hi.2.2.2).2.2) rfl (mid12 h1 h2).2.1 rfl dX3_makePlaceFor_53 ?_
          refine g_iast (k := x.toNatClampNeg) C 0 (hi.2.2.2).1 (mk_12n (N := 12) (hi.2.2.2).2.1 (hi.2.2.2).2.2) rfl (mid12 h1 h2).1 rfl dX3_makePlaceFor_54 ?_
          refine gv_eqG (mk_row (N := 12) (hi.2.2.2).2.1 (hi.2.2.2).2.2) ?_
          refine g_iinc (k := 2) (v := (x + (-1))) (lv' := [(2, .int (x + (-1))), (0, .ref (ad i)), (1, .int t)]) C dX3_makePlaceFor_55 rfl rfl (by decide) rfl ?_
          refine g_goto (tgt := 5) C dX3_makePlaceFor_58 (by decide) ?_
          refine gv_lv (lv' := [(0, .ref (ad i)), (1, .int t), (2, .int (x + (-1)))]) [1, 2, 0] rfl ?_
          exact ih (x + (-1)) (st (st ω (i + 1) x.toNatClampNeg (ω (i + 1) ((x - 1).toNatClampNeg))) (i + 2) x.toNatClampNeg ((st ω (i + 1) x.toNatClampNeg (ω (i + 1) ((x - 1).toNatClampNeg))) (i + 2) ((x - 1).toNatClampNeg))) (by have q1 := (mid12 h1 h2).2.2.1; have q2 := (mid12 h1 h2).2.2.2.2; omega) _ _ (e1.trans (congrArg (fun z : Int32 × Mem => some (Value.int z.1)) ((if_neg h1).trans ((if_neg h2).trans ((if_neg h3).trans rfl))))) (e2.trans (congrArg (fun z : Int32 × Mem => mk X ad z.2) ((if_neg h1).trans ((if_neg h2).trans ((if_neg h3).trans rfl)))))
def f_X3_makePlaceFor (i : Nat) (t : Int32) (ω : Mem) : Int32 × Mem := (f_X3_makePlaceFor_5 13 i t (ω i 2) ω)
set_option maxRecDepth 100000 in
set_option maxHeartbeats 4000000 in
theorem c_X3_makePlaceFor {l_ : Launch} {sa : Nat → Nat} {D : va_G} {X : Nat → ClassId} {ad : Nat → Nat} (i : Nat) (t : Int32) (hi : isPl i) (ω : Mem)  : CT l_ yX3_makePlaceFor wsX3_makePlaceFor rm_X3_makePlaceFor sa D (tyX X) 128 ad (mk X ad ω) [.ref (ad i), .int t] (some (.int (f_X3_makePlaceFor i t ω).1) : Option Value) (mk X ad (f_X3_makePlaceFor i t ω).2) := by
  refine ct_of [(0, .ref (ad i)), (1, .int t)] (by decide +kernel) rfl rfl (Nat.le_of_ble_eq_true rfl) rfl ?_
  intro p_ e_ s_ m_ args_ below_ meth_ c_ C hret hlk hin
  have e1 : (some (.int (f_X3_makePlaceFor i t ω).1) : Option Value) = (some (.int (f_X3_makePlaceFor i t ω).1) : Option Value) := rfl
  have e2 : mk X ad (f_X3_makePlaceFor i t ω).2 = mk X ad (f_X3_makePlaceFor i t ω).2 := rfl
  have iX3 : ∀ w ∈ u_ws RX3 TX3 3, w ∈ wsX3_makePlaceFor := by decide +kernel
  have L16 : Cond.fieldLink RX3 16 (TX3 2).1 (TX3 2).2.1 (TX3 2).2.2.1 ∈ wsX3_makePlaceFor := by decide +kernel
  refine g_aload_n C dX3_makePlaceFor_0 rfl 0 rfl ?_
  refine g_get (v := .int (ω i 2)) C iX3 (hi).1 (mk_5 (hi).2.1) rfl 2 (by decide) L16 rfl dX3_makePlaceFor_1 ?_
  refine g_istore_n (lv' := [(2, .int (ω i 2)), (0, .ref (ad i)), (1, .int t)]) C dX3_makePlaceFor_4 rfl (by decide) rfl ?_
  refine gv_lv (lv' := [(0, .ref (ad i)), (1, .int t), (2, .int (ω i 2))]) [1, 2, 0] rfl ?_
  exact k_X3_makePlaceFor_5 (13) i t hi C hret hlk (ω i 2) ω (by omega) _ _ (e1.trans (congrArg (fun z : Int32 × Mem => some (Value.int z.1)) rfl)) (e2.trans (congrArg (fun z : Int32 × Mem => mk X ad z.2) rfl))
abbrev rm_X3_put : Room := { frames := 2, cells := 0, slots := 0, locals := 43 }
theorem md_X3_put : yX3_put.cls = RX3 ∧ yX3_put.cls ≠ "java/lang/invoke/MethodHandle" ∧ yX3_put.cls ≠ "java/lang/invoke/VarHandle" ∧ (parseMethodDescriptor yX3_put.desc).map (fun d => d.parameters.length) = some 2 := by decide +kernel
def f_X3_put (i : Nat) (t : Int32) (d : Int32) (ω : Mem) : Int32 × Mem := (if (f_X3_hasRoomFor i t ω) = 0 then (0, ω) else (if (f_X3_placeOf i t ω) = (ω i 2) then (if (f_X3_makePlaceFor i t ω).1 < 0 then (1, (f_X3_makePlaceFor i t ω).2) else (if 12 ≤ (f_X3_makePlaceFor i t ω).1 then (1, (f_X3_makePlaceFor i t ω).2) else (1, (st (st (f_X3_makePlaceFor i t ω).2 (i + 1) ((f_X3_makePlaceFor i t ω).1.toNatClampNeg) t) (i + 2) ((f_X3_makePlaceFor i t ω).1.toNatClampNeg) d)))) else (if (f_X3_placeOf i t ω) < 0 then (1, ω) else (if 12 ≤ (f_X3_placeOf i t ω) then (1, ω) else (1, (st (st ω (i + 1) ((f_X3_placeOf i t ω).toNatClampNeg) t) (i + 2) ((f_X3_placeOf i t ω).toNatClampNeg) d))))))
set_option maxRecDepth 100000 in
set_option maxHeartbeats 4000000 in
theorem c_X3_put {l_ : Launch} {sa : Nat → Nat} {D : va_G} {X : Nat → ClassId} {ad : Nat → Nat} (i : Nat) (t : Int32) (d : Int32) (hi : isPl i) (ω : Mem)  : CT l_ yX3_put wsX3_put rm_X3_put sa D (tyX X) 128 ad (mk X ad ω) [.ref (ad i), .int t, .int d] (some (.int (f_X3_put i t d ω).1) : Option Value) (mk X ad (f_X3_put i t d ω).2) := by
  refine ct_of [(0, .ref (ad i)), (1, .int t), (2, .int d)] (by decide +kernel) rfl rfl (Nat.le_of_ble_eq_true rfl) rfl ?_
  intro p_ e_ s_ m_ args_ below_ meth_ c_ C hret hlk hin
  have e1 : (some (.int (f_X3_put i t d ω).1) : Option Value) = (some (.int (f_X3_put i t d ω).1) : Option Value) := rfl
  have e2 : mk X ad (f_X3_put i t d ω).2 = mk X ad (f_X3_put i t d ω).2 := rfl
  have iX3 : ∀ w ∈ u_ws RX3 TX3 3, w ∈ wsX3_put := by decide +kernel
  have L13 : Cond.fieldLink RX3 13 (TX3 1).1 (TX3 1).2.1 (TX3 1).2.2.1 ∈ wsX3_put := by decide +kernel
  have L16 : Cond.fieldLink RX3 16 (TX3 2).1 (TX3 2).2.1 (TX3 2).2.2.1 ∈ wsX3_put := by decide +kernel
  have L9 : Cond.fieldLink RX3 9 (TX3 0).1 (TX3 0).2.1 (TX3 0).2.2.1 ∈ wsX3_put := by decide +kernel
  refine g_aload_n C dX3_put_0 rfl 0 rfl ?_
  refine g_iload_n C dX3_put_1 rfl 1 rfl ?_
  refine g_callV (rest := []) (st1 := [.int (f_X3_hasRoomFor i t ω)]) C (c_X3_hasRoomFor i t hi ω) (cwV 1 C.hts gX3_put_X3_hasRoomFor rfl rfl rfl md_X3_hasRoomFor ⟨Nat.le_of_ble_eq_true rfl, Nat.le_of_ble_eq_true rfl⟩) (hi).1 (mk_5 (hi).2.1) rfl rfl rfl rfl rfl (Nat.le_of_ble_eq_true rfl) dX3_put_2 (Nat.zero_le _) (Nat.zero_le _) ?_
  refine g_if_ne (tgt := 10) C dX3_put_5 (by decide) (fun h1 => ?_) (fun h1 => ?_)
  · refine g_aload_n C dX3_put_10 rfl 0 rfl ?_
    refine g_iload_n C dX3_put_11 rfl 1 rfl ?_
    refine g_callV (rest := []) (st1 := [.int (f_X3_placeOf i t ω)]) C (c_X3_placeOf i t hi ω) (cwV 1 C.hts gX3_put_X3_placeOf rfl rfl rfl md_X3_placeOf ⟨Nat.le_of_ble_eq_true rfl, Nat.le_of_ble_eq_true rfl⟩) (hi).1 (mk_5 (hi).2.1) rfl rfl rfl rfl rfl (Nat.le_of_ble_eq_true rfl) dX3_put_12 (Nat.zero_le _) (Nat.zero_le _) ?_
    refine g_istore_n (lv' := [(3, .int (f_X3_placeOf i t ω)), (0, .ref (ad i)), (1, .int t), (2, .int d)]) C dX3_put_15 rfl (by decide) rfl ?_
    refine g_iload_n C dX3_put_16 rfl 0 rfl ?_
    refine g_aload_n C dX3_put_17 rfl 1 rfl ?_
    refine g_get (v := .int (ω i 2)) C iX3 (hi).1 (mk_5 (hi).2.1) rfl 2 (by decide) L16 rfl dX3_put_18 ?_
    refine g_icmp_ne (tgt := 30) C dX3_put_21 (by decide) (fun h2 => ?_) (fun h2 => ?_)
    · refine g_iload_n C dX3_put_30 rfl 0 rfl ?_
      refine g_if_lt (tgt := 54) C dX3_put_31 (by decide) (fun h3 => ?_) (fun h3 => ?_)
      · refine g_iconst (v := 1) C dX3_put_54 (by decide) ?_
        exact g_zret C hret hlk (nar_b (by decide)).1 (e1.trans (pr1 (v := 1) (w := ω) ((if_neg h1).trans ((if_neg h2).trans ((if_pos h3).trans rfl))))) (e2.trans (pr2 (v := 1) (w := ω) ((if_neg h1).trans ((if_neg h2).trans ((if_pos h3).trans rfl))))) dX3_put_55
      · refine g_iload_n C dX3_put_34 rfl 0 rfl ?_
        refine g_bipush (v := 12) C dX3_put_35 (by decide) ?_
        refine g_icmp_ge (tgt := 54) C dX3_put_37 (by decide) (fun h4 => ?_) (fun h4 => ?_)
        · refine g_iconst (v := 1) C dX3_put_54 (by decide) ?_
          exact g_zret C hret hlk (nar_b (by decide)).1 (e1.trans (pr1 (v := 1) (w := ω) ((if_neg h1).trans ((if_neg h2).trans ((if_neg h3).trans ((if_pos h4).trans rfl)))))) (e2.trans (pr2 (v := 1) (w := ω) ((if_neg h1).trans ((if_neg h2).trans ((if_neg h3).trans ((if_pos h4).trans rfl)))))) dX3_put_55
        · refine g_aload_n C dX3_put_40 rfl 1 rfl ?_
          refine g_get (v := .ref (ad (i + 1))) C iX3 (hi).1 (mk_5 (hi).2.1) rfl 0 (by decide) L9 rfl dX3_put_41 ?_
          refine g_iload_n C dX3_put_44 rfl 0 rfl ?_
          refine g_iload_n C dX3_put_45 rfl 2 rfl ?_
          refine g_iast (k := (f_X3_placeOf i t ω).toNatClampNeg) C 0 (hi.2.2.1).1 (mk_12n (N := 12) (hi.2.2.1).2.1 (hi.2.2.1).2.2) rfl (vp_in_of2 h3 h4 rfl) rfl dX3_put_46 ?_
          refine gv_eqG (mk_row (N := 12) (hi.2.2.1).2.1 (hi.2.2.1).2.2) ?_
          refine g_aload_n C dX3_put_47 rfl 1 rfl ?_
          refine g_get (v := .ref (ad (i + 2))) C iX3 (hi).1 (mk_5 (hi).2.1) rfl 1 (by decide) L13 rfl dX3_put_48 ?_
          refine g_iload_n C dX3_put_51 rfl 0 rfl ?_
          refine g_iload_n C dX3_put_52 rfl 3 rfl ?_
          refine g_iast (k := (f_X3_placeOf i t ω).toNatClampNeg) C 0 (hi.2.2.2).1 (mk_12n (N := 12) (hi.2.2.2).2.1 (hi.2.2.2).2.2) rfl (vp_in_of2 h3 h4 rfl) rfl dX3_put_53 ?_
          refine gv_eqG (mk_row (N := 12) (hi.2.2.2).2.1 (hi.2.2.2).2.2) ?_
          refine g_iconst (v := 1) C dX3_put_54 (by decide) ?_
          exact g_zret C hret hlk (nar_b (by decide)).1 (e1.trans (pr1 (v := 1) (w := (st (st ω (i + 1) ((f_X3_placeOf i t ω).toNatClampNeg) t) (i + 2) ((f_X3_placeOf i t ω).toNatClampNeg) d)) ((if_neg h1).trans ((if_neg h2).trans ((if_neg h3).trans ((if_neg h4).trans rfl)))))) (e2.trans (pr2 (v := 1) (w := (st (st ω (i + 1) ((f_X3_placeOf i t ω).toNatClampNeg) t) (i + 2) ((f_X3_placeOf i t ω).toNatClampNeg) d)) ((if_neg h1).trans ((if_neg h2).trans ((if_neg h3).trans ((if_neg h4).trans rfl)))))) dX3_put_55
    · refine g_aload_n C dX3_put_24 rfl 1 rfl ?_
      refine g_iload_n C dX3_put_25 rfl 2 rfl ?_
      refine g_callV (rest := []) (st1 := [.int (f_X3_makePlaceFor i t ω).1]) C (c_X3_makePlaceFor i t hi ω) (cwV 1 C.hts gX3_put_X3_makePlaceFor rfl rfl rfl md_X3_makePlaceFor ⟨Nat.le_of_ble_eq_true rfl, Nat.le_of_ble_eq_true rfl⟩) (hi).1 (mk_5 (hi).2.1) rfl rfl rfl rfl rfl (Nat.le_of_ble_eq_true rfl) dX3_put_26 (Nat.zero_le _) (Nat.zero_le _) ?_
      refine g_istore_n (lv' := [(3, .int (f_X3_makePlaceFor i t ω).1), (0, .ref (ad i)), (1, .int t), (2, .int d)]) C dX3_put_29 rfl (by decide) rfl ?_
      refine g_iload_n C dX3_put_30 rfl 0 rfl ?_
      refine g_if_lt (tgt := 54) C dX3_put_31 (by decide) (fun h5 => ?_) (fun h5 => ?_)
      · refine g_iconst (v := 1) C dX3_put_54 (by decide) ?_
        exact g_zret C hret hlk (nar_b (by decide)).1 (e1.trans (pr1 (v := 1) (w := (f_X3_makePlaceFor i t ω).2) ((if_neg h1).trans ((if_pos h2).trans ((if_pos h5).trans rfl))))) (e2.trans (pr2 (v := 1) (w := (f_X3_makePlaceFor i t ω).2) ((if_neg h1).trans ((if_pos h2).trans ((if_pos h5).trans rfl))))) dX3_put_55
      · refine g_iload_n C dX3_put_34 rfl 0 rfl ?_
        refine g_bipush (v := 12) C dX3_put_35 (by decide) ?_
        refine g_icmp_ge (tgt := 54) C dX3_put_37 (by decide) (fun h6 => ?_) (fun h6 => ?_)
        · refine g_iconst (v := 1) C dX3_put_54 (by decide) ?_
          exact g_zret C hret hlk (nar_b (by decide)).1 (e1.trans (pr1 (v := 1) (w := (f_X3_makePlaceFor i t ω).2) ((if_neg h1).trans ((if_pos h2).trans ((if_neg h5).trans ((if_pos h6).trans rfl)))))) (e2.trans (pr2 (v := 1) (w := (f_X3_makePlaceFor i t ω).2) ((if_neg h1).trans ((if_pos h2).trans ((if_neg h5).trans ((if_pos h6).trans rfl)))))) dX3_put_55
        · refine g_aload_n C dX3_put_40 rfl 1 rfl ?_
          refine g_get (v := .ref (ad (i + 1))) C iX3 (hi).1 (mk_5 (hi).2.1) rfl 0 (by decide) L9 rfl dX3_put_41 ?_
          refine g_iload_n C dX3_put_44 rfl 0 rfl ?_
          refine g_iload_n C dX3_put_45 rfl 2 rfl ?_
          refine g_iast (k := (f_X3_makePlaceFor i t ω).1.toNatClampNeg) C 0 (hi.2.2.1).1 (mk_12n (N := 12) (hi.2.2.1).2.1 (hi.2.2.1).2.2) rfl (vp_in_of2 h5 h6 rfl) rfl dX3_put_46 ?_
          refine gv_eqG (mk_row (N := 12) (hi.2.2.1).2.1 (hi.2.2.1).2.2) ?_
          refine g_aload_n C dX3_put_47 rfl 1 rfl ?_
          refine g_get (v := .ref (ad (i + 2))) C iX3 (hi).1 (mk_5 (hi).2.1) rfl 1 (by decide) L13 rfl dX3_put_48 ?_
          refine g_iload_n C dX3_put_51 rfl 0 rfl ?_
          refine g_iload_n C dX3_put_52 rfl 3 rfl ?_
          refine g_iast (k := (f_X3_makePlaceFor i t ω).1.toNatClampNeg) C 0 (hi.2.2.2).1 (mk_12n (N := 12) (hi.2.2.2).2.1 (hi.2.2.2).2.2) rfl (vp_in_of2 h5 h6 rfl) rfl dX3_put_53 ?_
          refine gv_eqG (mk_row (N := 12) (hi.2.2.2).2.1 (hi.2.2.2).2.2) ?_
          refine g_iconst (v := 1) C dX3_put_54 (by decide) ?_
          exact g_zret C hret hlk (nar_b (by decide)).1 (e1.trans (pr1 (v := 1) (w := (st (st (f_X3_makePlaceFor i t ω).2 (i + 1) ((f_X3_makePlaceFor i t ω).1.toNatClampNeg) t) (i + 2) ((f_X3_makePlaceFor i t ω).1.toNatClampNeg) d)) ((if_neg h1).trans ((if_pos h2).trans ((if_neg h5).trans ((if_neg h6).trans rfl)))))) (e2.trans (pr2 (v := 1) (w := (st (st (f_X3_makePlaceFor i t ω).2 (i + 1) ((f_X3_makePlaceFor i t ω).1.toNatClampNeg) t) (i + 2) ((f_X3_makePlaceFor i t ω).1.toNatClampNeg) d)) ((if_neg h1).trans ((if_pos h2).trans ((if_neg h5).trans ((if_neg h6).trans rfl)))))) dX3_put_55
  · refine g_iconst (v := 0) C dX3_put_8 (by decide) ?_
    exact g_zret C hret hlk (nar_b (by decide)).1 (e1.trans (pr1 (v := 0) (w := ω) ((if_pos h1).trans rfl))) (e2.trans (pr2 (v := 0) (w := ω) ((if_pos h1).trans rfl))) dX3_put_9
abbrev rm_X6_isDigit : Room := { frames := 0, cells := 0, slots := 0, locals := 0 }
theorem md_X6_isDigit : yX6_isDigit.cls = RX6 ∧ yX6_isDigit.cls ≠ "java/lang/invoke/MethodHandle" ∧ yX6_isDigit.cls ≠ "java/lang/invoke/VarHandle" ∧ (parseMethodDescriptor yX6_isDigit.desc).map (fun d => d.parameters.length) = some 1 := by decide +kernel
def f_X6_isDigit (c : Int32) (ω : Mem) : Int32 := (if c < 48 then 0 else (if 57 < c then 0 else 1))
set_option maxRecDepth 100000 in
set_option maxHeartbeats 4000000 in
theorem c_X6_isDigit {l_ : Launch} {sa : Nat → Nat} {D : va_G} {X : Nat → ClassId} {ad : Nat → Nat} (c : Int32) (ω : Mem)  : CT l_ yX6_isDigit wsX6_isDigit rm_X6_isDigit sa D (tyX X) 128 ad (mk X ad ω) [.int c] (some (.int (f_X6_isDigit c ω)) : Option Value) (mk X ad ω) := by
  refine ct_of [(0, .int c)] (by decide +kernel) rfl rfl (Nat.le_of_ble_eq_true rfl) rfl ?_
  intro p_ e_ s_ m_ args_ below_ meth_ c_ C hret hlk hin
  have e1 : (some (.int (f_X6_isDigit c ω)) : Option Value) = (some (.int (f_X6_isDigit c ω)) : Option Value) := rfl
  have e2 : mk X ad ω = mk X ad ω := rfl
  refine g_iload_n C dX6_isDigit_0 rfl 0 rfl ?_
  refine g_bipush (v := 48) C dX6_isDigit_1 (by decide) ?_
  refine g_icmp_lt (tgt := 16) C dX6_isDigit_3 (by decide) (fun h1 => ?_) (fun h1 => ?_)
  · refine g_iconst (v := 0) C dX6_isDigit_16 (by decide) ?_
    exact g_zret C hret hlk (nar_b (by decide)).1 (e1.trans (congrArg (fun z => some (Value.int z)) ((if_pos h1).trans rfl))) e2 dX6_isDigit_17
  · refine g_iload_n C dX6_isDigit_6 rfl 0 rfl ?_
    refine g_bipush (v := 57) C dX6_isDigit_7 (by decide) ?_
    refine g_icmp_gt (tgt := 16) C dX6_isDigit_9 (by decide) (fun h2 => ?_) (fun h2 => ?_)
    · refine g_iconst (v := 0) C dX6_isDigit_16 (by decide) ?_
      exact g_zret C hret hlk (nar_b (by decide)).1 (e1.trans (congrArg (fun z => some (Value.int z)) ((if_neg h1).trans ((if_pos h2).trans rfl)))) e2 dX6_isDigit_17
    · refine g_iconst (v := 1) C dX6_isDigit_12 (by decide) ?_
      refine g_goto (tgt := 17) C dX6_isDigit_13 (by decide) ?_
      exact g_zret C hret hlk (nar_b (by decide)).1 (e1.trans (congrArg (fun z => some (Value.int z)) ((if_neg h1).trans ((if_neg h2).trans rfl)))) e2 dX6_isDigit_17
theorem z_X6_isDigit {c : Int32} {ω : Mem} : bb (f_X6_isDigit c ω) = f_X6_isDigit c ω := by
  unfold f_X6_isDigit
  repeat' split
  all_goals first | with_reducible exact bb_bb _ | decide
abbrev rm_X6_placeAfter : Room := { frames := 1, cells := 0, slots := 0, locals := 20 }
theorem md_X6_placeAfter : yX6_placeAfter.cls = RX6 ∧ yX6_placeAfter.cls ≠ "java/lang/invoke/MethodHandle" ∧ yX6_placeAfter.cls ≠ "java/lang/invoke/VarHandle" ∧ (parseMethodDescriptor yX6_placeAfter.desc).map (fun d => d.parameters.length) = some 2 := by decide +kernel
def f_X6_placeAfter (p : Int32) (c : Int32) (ω : Mem) : Int32 := (if p = 0 then (if c = 48 then 4 else (if (f_X6_isDigit c ω) = 0 then 7 else 1)) else (if p = 1 then (if (f_X6_isDigit c ω) = 0 then (if c = 58 then 5 else 7) else (p + 1)) else (if p = 2 then (if (f_X6_isDigit c ω) = 0 then (if c = 58 then 5 else 7) else (p + 1)) else (if p = 3 then (if (f_X6_isDigit c ω) = 0 then (if c = 58 then 5 else 7) else (p + 1)) else (if p = 4 then (if c = 58 then 5 else 7) else (if p = 5 then (if (f_X6_isDigit c ω) = 0 then 7 else 6) else (if p = 6 then (if c = 44 then 0 else 7) else 7)))))))
set_option maxRecDepth 100000 in
set_option maxHeartbeats 4000000 in
theorem c_X6_placeAfter {l_ : Launch} {sa : Nat → Nat} {D : va_G} {X : Nat → ClassId} {ad : Nat → Nat} (p : Int32) (c : Int32) (ω : Mem)  : CT l_ yX6_placeAfter wsX6_placeAfter rm_X6_placeAfter sa D (tyX X) 128 ad (mk X ad ω) [.int p, .int c] (some (.int (f_X6_placeAfter p c ω)) : Option Value) (mk X ad ω) := by
  refine ct_of [(0, .int p), (1, .int c)] (by decide +kernel) rfl rfl (Nat.le_of_ble_eq_true rfl) rfl ?_
  intro p_ e_ s_ m_ args_ below_ meth_ c_ C hret hlk hin
  have e1 : (some (.int (f_X6_placeAfter p c ω)) : Option Value) = (some (.int (f_X6_placeAfter p c ω)) : Option Value) := rfl
  have e2 : mk X ad ω = mk X ad ω := rfl
  refine g_iload_n C dX6_placeAfter_0 rfl 0 rfl ?_
  by_cases h1 : p = 0
  · refine g_tabIn (tgt := 44) C dX6_placeAfter_1 (by rw [h1]; decide) (by rw [h1]; decide) (by rw [h1]; rfl) (by decide) ?_
    refine g_iload_n C dX6_placeAfter_44 rfl 1 rfl ?_
    refine g_bipush (v := 48) C dX6_placeAfter_45 (by decide) ?_
    refine g_icmp_ne (tgt := 52) C dX6_placeAfter_47 (by decide) (fun h2 => ?_) (fun h2 => ?_)
    · refine g_iload_n C dX6_placeAfter_52 rfl 1 rfl ?_
      refine g_callS (rest := []) (st1 := [.int (f_X6_isDigit c ω)]) C (c_X6_isDigit c ω) (va_cwS 1 C.hts gX6_placeAfter_X6_isDigit rfl rfl rfl md_X6_isDigit.2 ⟨Nat.le_of_ble_eq_true rfl, Nat.le_of_ble_eq_true rfl⟩) rfl rfl rfl (Nat.le_of_ble_eq_true rfl) dX6_placeAfter_53 (Nat.zero_le _) (Nat.zero_le _) ?_
      refine g_if_eq (tgt := 63) C dX6_placeAfter_56 (by decide) (fun h3 => ?_) (fun h3 => ?_)
      · refine g_bipush (v := 7) C dX6_placeAfter_63 (by decide) ?_
        exact g_iret C hret hlk (e1.trans (congrArg (fun z => some (Value.int z)) ((if_pos h1).trans ((if_neg h2).trans ((if_pos h3).trans rfl))))) e2 dX6_placeAfter_65
      · refine g_iconst (v := 1) C dX6_placeAfter_59 (by decide) ?_
        refine g_goto (tgt := 65) C dX6_placeAfter_60 (by decide) ?_
        exact g_iret C hret hlk (e1.trans (congrArg (fun z => some (Value.int z)) ((if_pos h1).trans ((if_neg h2).trans ((if_neg h3).trans rfl))))) e2 dX6_placeAfter_65
    · refine g_iconst (v := 4) C dX6_placeAfter_50 (by decide) ?_
      exact g_iret C hret hlk (e1.trans (congrArg (fun z => some (Value.int z)) ((if_pos h1).trans ((if_pos h2).trans rfl)))) e2 dX6_placeAfter_51
  · by_cases h4 : p = 1
    · refine g_tabIn (tgt := 66) C dX6_placeAfter_1 (by rw [h4]; decide) (by rw [h4]; decide) (by rw [h4]; rfl) (by decide) ?_
      refine g_iload_n C dX6_placeAfter_66 rfl 1 rfl ?_
      refine g_callS (rest := []) (st1 := [.int (f_X6_isDigit c ω)]) C (c_X6_isDigit c ω) (va_cwS 1 C.hts gX6_placeAfter_X6_isDigit rfl rfl rfl md_X6_isDigit.2 ⟨Nat.le_of_ble_eq_true rfl, Nat.le_of_ble_eq_true rfl⟩) rfl rfl rfl (Nat.le_of_ble_eq_true rfl) dX6_placeAfter_67 (Nat.zero_le _) (Nat.zero_le _) ?_
      refine g_if_eq (tgt := 77) C dX6_placeAfter_70 (by decide) (fun h5 => ?_) (fun h5 => ?_)
      · refine g_iload_n C dX6_placeAfter_77 rfl 1 rfl ?_
        refine g_bipush (v := 58) C dX6_placeAfter_78 (by decide) ?_
        refine g_icmp_ne (tgt := 87) C dX6_placeAfter_80 (by decide) (fun h6 => ?_) (fun h6 => ?_)
        · refine g_bipush (v := 7) C dX6_placeAfter_87 (by decide) ?_
          exact g_iret C hret hlk (e1.trans (congrArg (fun z => some (Value.int z)) ((if_neg h1).trans ((if_pos h4).trans ((if_pos h5).trans ((if_neg h6).trans rfl)))))) e2 dX6_placeAfter_89
        · refine g_iconst (v := 5) C dX6_placeAfter_83 (by decide) ?_
          refine g_goto (tgt := 89) C dX6_placeAfter_84 (by decide) ?_
          exact g_iret C hret hlk (e1.trans (congrArg (fun z => some (Value.int z)) ((if_neg h1).trans ((if_pos h4).trans ((if_pos h5).trans ((if_pos h6).trans rfl)))))) e2 dX6_placeAfter_89
      · refine g_iload_n C dX6_placeAfter_73 rfl 0 rfl ?_
        refine g_iconst (v := 1) C dX6_placeAfter_74 (by decide) ?_
        refine g_iadd (v := (p + 1)) C dX6_placeAfter_75 rfl ?_
        exact g_iret C hret hlk (e1.trans (congrArg (fun z => some (Value.int z)) ((if_neg h1).trans ((if_pos h4).trans ((if_neg h5).trans rfl))))) e2 dX6_placeAfter_76
    · by_cases h7 : p = 2
      · refine g_tabIn (tgt := 66) C dX6_placeAfter_1 (by rw [h7]; decide) (by rw [h7]; decide) (by rw [h7]; rfl) (by decide) ?_
        refine g_iload_n C dX6_placeAfter_66 rfl 1 rfl ?_
        refine g_callS (rest := []) (st1 := [.int (f_X6_isDigit c ω)]) C (c_X6_isDigit c ω) (va_cwS 1 C.hts gX6_placeAfter_X6_isDigit rfl rfl rfl md_X6_isDigit.2 ⟨Nat.le_of_ble_eq_true rfl, Nat.le_of_ble_eq_true rfl⟩) rfl rfl rfl (Nat.le_of_ble_eq_true rfl) dX6_placeAfter_67 (Nat.zero_le _) (Nat.zero_le _) ?_
        refine g_if_eq (tgt := 77) C dX6_placeAfter_70 (by decide) (fun h8 => ?_) (fun h8 => ?_)
        · refine g_iload_n C dX6_placeAfter_77 rfl 1 rfl ?_
          refine g_bipush (v := 58) C dX6_placeAfter_78 (by decide) ?_
          refine g_icmp_ne (tgt := 87) C dX6_placeAfter_80 (by decide) (fun h9 => ?_) (fun h9 => ?_)
          · refine g_bipush (v := 7) C dX6_placeAfter_87 (by decide) ?_
            exact g_iret C hret hlk (e1.trans (congrArg (fun z => some (Value.int z)) ((if_neg h1).trans ((if_neg h4).trans ((if_pos h7).trans ((if_pos h8).trans ((if_neg h9).trans rfl))))))) e2 dX6_placeAfter_89
          · refine g_iconst (v := 5) C dX6_placeAfter_83 (by decide) ?_
            refine g_goto (tgt := 89) C dX6_placeAfter_84 (by decide) ?_
            exact g_iret C hret hlk (e1.trans (congrArg (fun z => some (Value.int z)) ((if_neg h1).trans ((if_neg h4).trans ((if_pos h7).trans ((if_pos h8).trans ((if_pos h9).trans rfl))))))) e2 dX6_placeAfter_89
        · refine g_iload_n C dX6_placeAfter_73 rfl 0 rfl ?_
          refine g_iconst (v := 1) C dX6_placeAfter_74 (by decide) ?_
          refine g_iadd (v := (p + 1)) C dX6_placeAfter_75 rfl ?_
          exact g_iret C hret hlk (e1.trans (congrArg (fun z => some (Value.int z)) ((if_neg h1).trans ((if_neg h4).trans ((if_pos h7).trans ((if_neg h8).trans rfl)))))) e2 dX6_placeAfter_76
      · by_cases h10 : p = 3
        · refine g_tabIn (tgt := 66) C dX6_placeAfter_1 (by rw [h10]; decide) (by rw [h10]; decide) (by rw [h10]; rfl) (by decide) ?_
          refine g_iload_n C dX6_placeAfter_66 rfl 1 rfl ?_
          refine g_callS (rest := []) (st1 := [.int (f_X6_isDigit c ω)]) C (c_X6_isDigit c ω) (va_cwS 1 C.hts gX6_placeAfter_X6_isDigit rfl rfl rfl md_X6_isDigit.2 ⟨Nat.le_of_ble_eq_true rfl, Nat.le_of_ble_eq_true rfl⟩) rfl rfl rfl (Nat.le_of_ble_eq_true rfl) dX6_placeAfter_67 (Nat.zero_le _) (Nat.zero_le _) ?_
          refine g_if_eq (tgt := 77) C dX6_placeAfter_70 (by decide) (fun h11 => ?_) (fun h11 => ?_)
          · refine g_iload_n C dX6_placeAfter_77 rfl 1 rfl ?_
            refine g_bipush (v := 58) C dX6_placeAfter_78 (by decide) ?_
            refine g_icmp_ne (tgt := 87) C dX6_placeAfter_80 (by decide) (fun h12 => ?_) (fun h12 => ?_)
            · refine g_bipush (v := 7) C dX6_placeAfter_87 (by decide) ?_
              exact g_iret C hret hlk (e1.trans (congrArg (fun z => some (Value.int z)) ((if_neg h1).trans ((if_neg h4).trans ((if_neg h7).trans ((if_pos h10).trans ((if_pos h11).trans ((if_neg h12).trans rfl)))))))) e2 dX6_placeAfter_89
            · refine g_iconst (v := 5) C dX6_placeAfter_83 (by decide) ?_
              refine g_goto (tgt := 89) C dX6_placeAfter_84 (by decide) ?_
              exact g_iret C hret hlk (e1.trans (congrArg (fun z => some (Value.int z)) ((if_neg h1).trans ((if_neg h4).trans ((if_neg h7).trans ((if_pos h10).trans ((if_pos h11).trans ((if_pos h12).trans rfl)))))))) e2 dX6_placeAfter_89
          · refine g_iload_n C dX6_placeAfter_73 rfl 0 rfl ?_
            refine g_iconst (v := 1) C dX6_placeAfter_74 (by decide) ?_
            refine g_iadd (v := (p + 1)) C dX6_placeAfter_75 rfl ?_
            exact g_iret C hret hlk (e1.trans (congrArg (fun z => some (Value.int z)) ((if_neg h1).trans ((if_neg h4).trans ((if_neg h7).trans ((if_pos h10).trans ((if_neg h11).trans rfl))))))) e2 dX6_placeAfter_76
        · by_cases h13 : p = 4
          · refine g_tabIn (tgt := 90) C dX6_placeAfter_1 (by rw [h13]; decide) (by rw [h13]; decide) (by rw [h13]; rfl) (by decide) ?_
            refine g_iload_n C dX6_placeAfter_90 rfl 1 rfl ?_
            refine g_bipush (v := 58) C dX6_placeAfter_91 (by decide) ?_
            refine g_icmp_ne (tgt := 100) C dX6_placeAfter_93 (by decide) (fun h14 => ?_) (fun h14 => ?_)
            · refine g_bipush (v := 7) C dX6_placeAfter_100 (by decide) ?_
              exact g_iret C hret hlk (e1.trans (congrArg (fun z => some (Value.int z)) ((if_neg h1).trans ((if_neg h4).trans ((if_neg h7).trans ((if_neg h10).trans ((if_pos h13).trans ((if_neg h14).trans rfl)))))))) e2 dX6_placeAfter_102
            · refine g_iconst (v := 5) C dX6_placeAfter_96 (by decide) ?_
              refine g_goto (tgt := 102) C dX6_placeAfter_97 (by decide) ?_
              exact g_iret C hret hlk (e1.trans (congrArg (fun z => some (Value.int z)) ((if_neg h1).trans ((if_neg h4).trans ((if_neg h7).trans ((if_neg h10).trans ((if_pos h13).trans ((if_pos h14).trans rfl)))))))) e2 dX6_placeAfter_102
          · by_cases h15 : p = 5
            · refine g_tabIn (tgt := 103) C dX6_placeAfter_1 (by rw [h15]; decide) (by rw [h15]; decide) (by rw [h15]; rfl) (by decide) ?_
              refine g_iload_n C dX6_placeAfter_103 rfl 1 rfl ?_
              refine g_callS (rest := []) (st1 := [.int (f_X6_isDigit c ω)]) C (c_X6_isDigit c ω) (va_cwS 1 C.hts gX6_placeAfter_X6_isDigit rfl rfl rfl md_X6_isDigit.2 ⟨Nat.le_of_ble_eq_true rfl, Nat.le_of_ble_eq_true rfl⟩) rfl rfl rfl (Nat.le_of_ble_eq_true rfl) dX6_placeAfter_104 (Nat.zero_le _) (Nat.zero_le _) ?_
              refine g_if_eq (tgt := 115) C dX6_placeAfter_107 (by decide) (fun h16 => ?_) (fun h16 => ?_)
              · refine g_bipush (v := 7) C dX6_placeAfter_115 (by decide) ?_
                exact g_iret C hret hlk (e1.trans (congrArg (fun z => some (Value.int z)) ((if_neg h1).trans ((if_neg h4).trans ((if_neg h7).trans ((if_neg h10).trans ((if_neg h13).trans ((if_pos h15).trans ((if_pos h16).trans rfl))))))))) e2 dX6_placeAfter_117
              · refine g_bipush (v := 6) C dX6_placeAfter_110 (by decide) ?_
                refine g_goto (tgt := 117) C dX6_placeAfter_112 (by decide) ?_
                exact g_iret C hret hlk (e1.trans (congrArg (fun z => some (Value.int z)) ((if_neg h1).trans ((if_neg h4).trans ((if_neg h7).trans ((if_neg h10).trans ((if_neg h13).trans ((if_pos h15).trans ((if_neg h16).trans rfl))))))))) e2 dX6_placeAfter_117
            · by_cases h17 : p = 6
              · refine g_tabIn (tgt := 118) C dX6_placeAfter_1 (by rw [h17]; decide) (by rw [h17]; decide) (by rw [h17]; rfl) (by decide) ?_
                refine g_iload_n C dX6_placeAfter_118 rfl 1 rfl ?_
                refine g_bipush (v := 44) C dX6_placeAfter_119 (by decide) ?_
                refine g_icmp_ne (tgt := 128) C dX6_placeAfter_121 (by decide) (fun h18 => ?_) (fun h18 => ?_)
                · refine g_bipush (v := 7) C dX6_placeAfter_128 (by decide) ?_
                  exact g_iret C hret hlk (e1.trans (congrArg (fun z => some (Value.int z)) ((if_neg h1).trans ((if_neg h4).trans ((if_neg h7).trans ((if_neg h10).trans ((if_neg h13).trans ((if_neg h15).trans ((if_pos h17).trans ((if_neg h18).trans rfl)))))))))) e2 dX6_placeAfter_130
                · refine g_iconst (v := 0) C dX6_placeAfter_124 (by decide) ?_
                  refine g_goto (tgt := 130) C dX6_placeAfter_125 (by decide) ?_
                  exact g_iret C hret hlk (e1.trans (congrArg (fun z => some (Value.int z)) ((if_neg h1).trans ((if_neg h4).trans ((if_neg h7).trans ((if_neg h10).trans ((if_neg h13).trans ((if_neg h15).trans ((if_pos h17).trans ((if_pos h18).trans rfl)))))))))) e2 dX6_placeAfter_130
              · refine g_tabOut (tgt := 131) C dX6_placeAfter_1 (tab_out 0 6 (fun k hk hz => by
                  rcases (show k = 0 ∨ k = 1 ∨ k = 2 ∨ k = 3 ∨ k = 4 ∨ k = 5 ∨ k = 6 by omega) with rfl | rfl | rfl | rfl | rfl | rfl | rfl
                  · exact h1 (Int32.toInt_inj.mp (hz.trans (by decide)))
                  · exact h4 (Int32.toInt_inj.mp (hz.trans (by decide)))
                  · exact h7 (Int32.toInt_inj.mp (hz.trans (by decide)))
                  · exact h10 (Int32.toInt_inj.mp (hz.trans (by decide)))
                  · exact h13 (Int32.toInt_inj.mp (hz.trans (by decide)))
                  · exact h15 (Int32.toInt_inj.mp (hz.trans (by decide)))
                  · exact h17 (Int32.toInt_inj.mp (hz.trans (by decide)))
                  )) (by decide) ?_
                refine g_bipush (v := 7) C dX6_placeAfter_131 (by decide) ?_
                exact g_iret C hret hlk (e1.trans (congrArg (fun z => some (Value.int z)) ((if_neg h1).trans ((if_neg h4).trans ((if_neg h7).trans ((if_neg h10).trans ((if_neg h13).trans ((if_neg h15).trans ((if_neg h17).trans rfl))))))))) e2 dX6_placeAfter_133
abbrev rm_X6_append : Room := { frames := 0, cells := 0, slots := 0, locals := 0 }
theorem md_X6_append : yX6_append.cls = RX6 ∧ yX6_append.cls ≠ "java/lang/invoke/MethodHandle" ∧ yX6_append.cls ≠ "java/lang/invoke/VarHandle" ∧ (parseMethodDescriptor yX6_append.desc).map (fun d => d.parameters.length) = some 1 := by decide +kernel
def f_X6_append (c : Int32) (ω : Mem) : Int32 × Mem := (if (ω 118 1) < 0 then (0, ω) else (if (ω 118 1) < 60 then (1, (st (st ω 119 ((ω 118 1).toNatClampNeg) (vp_nar .char c)) 118 1 (((st ω 119 ((ω 118 1).toNatClampNeg) (vp_nar .char c)) 118 1) + 1))) else (0, ω)))
set_option maxRecDepth 100000 in
set_option maxHeartbeats 4000000 in
theorem c_X6_append {l_ : Launch} {sa : Nat → Nat} {D : va_G} {X : Nat → ClassId} {ad : Nat → Nat} (c : Int32) (ω : Mem)  : CT l_ yX6_append wsX6_append rm_X6_append sa D (tyX X) 128 ad (mk X ad ω) [.ref (ad 118), .int c] (some (.int (f_X6_append c ω).1) : Option Value) (mk X ad (f_X6_append c ω).2) := by
  refine ct_of [(0, .ref (ad 118)), (1, .int c)] (by decide +kernel) rfl rfl (Nat.le_of_ble_eq_true rfl) rfl ?_
  intro p_ e_ s_ m_ args_ below_ meth_ c_ C hret hlk hin
  have e1 : (some (.int (f_X6_append c ω).1) : Option Value) = (some (.int (f_X6_append c ω).1) : Option Value) := rfl
  have e2 : mk X ad (f_X6_append c ω).2 = mk X ad (f_X6_append c ω).2 := rfl
  have iX6 : ∀ w ∈ u_ws RX6 TX6 2, w ∈ wsX6_append := by decide +kernel
  have L13 : Cond.fieldLink RX6 13 (TX6 1).1 (TX6 1).2.1 (TX6 1).2.2.1 ∈ wsX6_append := by decide +kernel
  have L9 : Cond.fieldLink RX6 9 (TX6 0).1 (TX6 0).2.1 (TX6 0).2.2.1 ∈ wsX6_append := by decide +kernel
  refine g_aload_n C dX6_append_0 rfl 0 rfl ?_
  refine g_get (v := .int (ω 118 1)) C iX6 (by decide) (mk_9 (by decide)) rfl 1 (by decide) L13 rfl dX6_append_1 ?_
  refine g_if_lt (tgt := 16) C dX6_append_4 (by decide) (fun h1 => ?_) (fun h1 => ?_)
  · refine g_iconst (v := 0) C dX6_append_16 (by decide) ?_
    exact g_zret C hret hlk (nar_b (by decide)).1 (e1.trans (pr1 (v := 0) (w := ω) ((if_pos h1).trans rfl))) (e2.trans (pr2 (v := 0) (w := ω) ((if_pos h1).trans rfl))) dX6_append_17
  · refine g_aload_n C dX6_append_7 rfl 0 rfl ?_
    refine g_get (v := .int (ω 118 1)) C iX6 (by decide) (mk_9 (by decide)) rfl 1 (by decide) L13 rfl dX6_append_8 ?_
    refine g_bipush (v := 60) C dX6_append_11 (by decide) ?_
    refine g_icmp_lt (tgt := 18) C dX6_append_13 (by decide) (fun h2 => ?_) (fun h2 => ?_)
    · refine g_aload_n C dX6_append_18 rfl 0 rfl ?_
      refine g_get (v := .ref (ad 119)) C iX6 (by decide) (mk_9 (by decide)) rfl 0 (by decide) L9 rfl dX6_append_19 ?_
      refine g_aload_n C dX6_append_22 rfl 0 rfl ?_
      refine g_get (v := .int (ω 118 1)) C iX6 (by decide) (mk_9 (by decide)) rfl 1 (by decide) L13 rfl dX6_append_23 ?_
      refine g_iload_n C dX6_append_26 rfl 1 rfl ?_
      refine g_cast (k := (ω 118 1).toNatClampNeg) C 1 (by decide) (mk_10 (by decide)) rfl (vp_in_of2 h1 (nle_of_lt h2) rfl) rfl dX6_append_27 ?_
      refine gv_eqG (mk_chr (by decide)) ?_
      refine g_aload_n C dX6_append_28 rfl 0 rfl ?_
      refine g_dup C dX6_append_29 rfl ?_
      refine g_get (v := .int ((st ω 119 ((ω 118 1).toNatClampNeg) (vp_nar .char c)) 118 1)) C iX6 (by decide) (mk_9 (by decide)) rfl 1 (by decide) L13 rfl dX6_append_30 ?_
      refine g_iconst (v := 1) C dX6_append_33 (by decide) ?_
      refine g_iadd (v := (((st ω 119 ((ω 118 1).toNatClampNeg) (vp_nar .char c)) 118 1) + 1)) C dX6_append_34 rfl ?_
      refine g_put C iX6 tyX6 tyX6_ok nmX6 (by decide) (mk_9 (by decide)) rfl 1 (by decide) L13 rfl rfl rfl (Nat.le_of_ble_eq_true rfl) dX6_append_35 ?_
      refine gv_eqG (mkp_9_1 (by decide)) ?_
      refine g_iconst (v := 1) C dX6_append_38 (by decide) ?_
      exact g_zret C hret hlk (nar_b (by decide)).1 (e1.trans (pr1 (v := 1) (w := (st (st ω 119 ((ω 118 1).toNatClampNeg) (vp_nar .char c)) 118 1 (((st ω 119 ((ω 118 1).toNatClampNeg) (vp_nar .char c)) 118 1) + 1))) ((if_neg h1).trans ((if_pos h2).trans rfl)))) (e2.trans (pr2 (v := 1) (w := (st (st ω 119 ((ω 118 1).toNatClampNeg) (vp_nar .char c)) 118 1 (((st ω 119 ((ω 118 1).toNatClampNeg) (vp_nar .char c)) 118 1) + 1))) ((if_neg h1).trans ((if_pos h2).trans rfl)))) dX6_append_39
    · refine g_iconst (v := 0) C dX6_append_16 (by decide) ?_
      exact g_zret C hret hlk (nar_b (by decide)).1 (e1.trans (pr1 (v := 0) (w := ω) ((if_neg h1).trans ((if_neg h2).trans rfl)))) (e2.trans (pr2 (v := 0) (w := ω) ((if_neg h1).trans ((if_neg h2).trans rfl)))) dX6_append_17
abbrev rm_X6_empty : Room := { frames := 0, cells := 0, slots := 0, locals := 0 }
theorem md_X6_empty : yX6_empty.cls = RX6 ∧ yX6_empty.cls ≠ "java/lang/invoke/MethodHandle" ∧ yX6_empty.cls ≠ "java/lang/invoke/VarHandle" ∧ (parseMethodDescriptor yX6_empty.desc).map (fun d => d.parameters.length) = some 0 := by decide +kernel
def f_X6_empty  (ω : Mem) : Mem := (st ω 118 1 0)
set_option maxRecDepth 100000 in
set_option maxHeartbeats 4000000 in
theorem c_X6_empty {l_ : Launch} {sa : Nat → Nat} {D : va_G} {X : Nat → ClassId} {ad : Nat → Nat}  (ω : Mem)  : CT l_ yX6_empty wsX6_empty rm_X6_empty sa D (tyX X) 128 ad (mk X ad ω) [.ref (ad 118)] (none : Option Value) (mk X ad (f_X6_empty ω)) := by
  refine ct_of [(0, .ref (ad 118))] (by decide +kernel) rfl rfl (Nat.le_of_ble_eq_true rfl) rfl ?_
  intro p_ e_ s_ m_ args_ below_ meth_ c_ C hret hlk hin
  have e1 : (none : Option Value) = (none : Option Value) := rfl
  have e2 : mk X ad (f_X6_empty ω) = mk X ad (f_X6_empty ω) := rfl
  have iX6 : ∀ w ∈ u_ws RX6 TX6 2, w ∈ wsX6_empty := by decide +kernel
  have L13 : Cond.fieldLink RX6 13 (TX6 1).1 (TX6 1).2.1 (TX6 1).2.2.1 ∈ wsX6_empty := by decide +kernel
  refine g_aload_n C dX6_empty_0 rfl 0 rfl ?_
  refine g_iconst (v := 0) C dX6_empty_1 (by decide) ?_
  refine g_put C iX6 tyX6 tyX6_ok nmX6 (by decide) (mk_9 (by decide)) rfl 1 (by decide) L13 rfl rfl rfl (Nat.le_of_ble_eq_true rfl) dX6_empty_2 ?_
  refine gv_eqG (mkp_9_1 (by decide)) ?_
  exact g_vret C hret hlk e1 (e2.trans (congrArg (mk X ad) rfl)) dX6_empty_5
abbrev rm_X6_fault : Room := { frames := 2, cells := 0, slots := 0, locals := 41 }
theorem md_X6_fault : yX6_fault.cls = RX6 ∧ yX6_fault.cls ≠ "java/lang/invoke/MethodHandle" ∧ yX6_fault.cls ≠ "java/lang/invoke/VarHandle" ∧ (parseMethodDescriptor yX6_fault.desc).map (fun d => d.parameters.length) = some 0 := by decide +kernel
def f_X6_fault_4 : Nat → Int32 → Nat → Mem → Int32
  | 0, _, _, _ => 0
  | fu + 1, p, j, ω => (if (ω 118 1) ≤ (nI (j)) then (if p = 6 then (-1) else (ω 118 1)) else (if 60 ≤ j then (if p = 6 then (-1) else (ω 118 1)) else (if (f_X6_placeAfter p (ω 119 j) ω) = 7 then (nI (j)) else (f_X6_fault_4 fu (f_X6_placeAfter p (ω 119 j) ω) (j + 1) ω))))
set_option maxRecDepth 100000 in
set_option maxHeartbeats 4000000 in
theorem k_X6_fault_4 {l_ : Launch} {p_ : Program} {e_ : Env} {s_ : State} {m_ : MethodId} {args_ : Array Value} {below_ : List Frame} {meth_ : Method} {c_ : Code} {sa : Nat → Nat} {D : va_G} {X : Nat → ClassId} {ad : Nat → Nat} {G0 : Nat → va_E} (fu : Nat)  (C : GC p_ rm_X6_fault s_ m_ args_ meth_ c_ cX6_fault 3 wsX6_fault RX6 sa D (tyX X) (va_A (gw 128 ad G0) s_.heap.size)) (hret : meth_.sig.returnType = (some .int)) (hlk : meth_.locks = false) : ∀ (p : Int32) (j : Nat) (ω : Mem) (hj : j ≤ 60) (hfuel : 60 < j + fu) (rv : Option Value) (G2 : Nat → va_E) (e1 : rv = some (.int (f_X6_fault_4 fu p j ω))) (e2 : G2 = mk X ad ω), GV p_ l_ e_ rm_X6_fault s_ m_ args_ below_ meth_ c_ 0 0 (CQ below_ args_ s_ D 128 ad G0 rv G2) D (va_A (gw 128 ad G0) s_.heap.size) 3 128 ad (mk X ad ω) [(0, .ref (ad 118)), (1, .int p), (2, .int (nI (j)))] 4 [] := by
  have iX6 : ∀ w ∈ u_ws RX6 TX6 2, w ∈ wsX6_fault := by decide +kernel
  have L13 : Cond.fieldLink RX6 13 (TX6 1).1 (TX6 1).2.1 (TX6 1).2.2.1 ∈ wsX6_fault := by decide +kernel
  have L9 : Cond.fieldLink RX6 9 (TX6 0).1 (TX6 0).2.1 (TX6 0).2.2.1 ∈ wsX6_fault := by decide +kernel
  induction fu with
  | zero =>
    intro p j ω hj hfuel rv G2 e1 e2
    exact absurd hfuel (by omega)
  | succ fu ih =>
    intro p j ω hj hfuel rv G2 e1 e2
    refine g_iload_n C dX6_fault_4 rfl 2 rfl ?_
    refine g_aload_n C dX6_fault_5 rfl 0 rfl ?_
    refine g_get (v := .int (ω 118 1)) C iX6 (by decide) (mk_9 (by decide)) rfl 1 (by decide) L13 rfl dX6_fault_6 ?_
    refine g_icmp_ge (tgt := 43) C dX6_fault_9 (by decide) (fun h1 => ?_) (fun h1 => ?_)
    · refine g_iload_n C dX6_fault_43 rfl 1 rfl ?_
      refine g_bipush (v := 6) C dX6_fault_44 (by decide) ?_
      refine g_icmp_ne (tgt := 53) C dX6_fault_46 (by decide) (fun h2 => ?_) (fun h2 => ?_)
      · refine g_aload_n C dX6_fault_53 rfl 0 rfl ?_
        refine g_get (v := .int (ω 118 1)) C iX6 (by decide) (mk_9 (by decide)) rfl 1 (by decide) L13 rfl dX6_fault_54 ?_
        exact g_iret C hret hlk (e1.trans (congrArg (fun z => some (Value.int z)) ((if_pos h1).trans ((if_neg h2).trans rfl)))) e2 dX6_fault_57
      · refine g_iconst (v := (-1)) C dX6_fault_49 (by decide) ?_
        refine g_goto (tgt := 57) C dX6_fault_50 (by decide) ?_
        exact g_iret C hret hlk (e1.trans (congrArg (fun z => some (Value.int z)) ((if_pos h1).trans ((if_pos h2).trans rfl)))) e2 dX6_fault_57
    · refine g_iload_n C dX6_fault_12 rfl 2 rfl ?_
      refine g_bipush (v := 60) C dX6_fault_13 (by decide) ?_
      refine g_icmp_ge (tgt := 43) C dX6_fault_15 (by decide) (fun h3 => ?_) (fun h3 => ?_)
      · have h3n := (nI_leI (a := 60) (b := j) (by omega) (by omega)).mp h3
        refine g_iload_n C dX6_fault_43 rfl 1 rfl ?_
        refine g_bipush (v := 6) C dX6_fault_44 (by decide) ?_
        refine g_icmp_ne (tgt := 53) C dX6_fault_46 (by decide) (fun h4 => ?_) (fun h4 => ?_)
        · refine g_aload_n C dX6_fault_53 rfl 0 rfl ?_
          refine g_get (v := .int (ω 118 1)) C iX6 (by decide) (mk_9 (by decide)) rfl 1 (by decide) L13 rfl dX6_fault_54 ?_
          exact g_iret C hret hlk (e1.trans (congrArg (fun z => some (Value.int z)) ((if_neg h1).trans ((if_pos h3n).trans ((if_neg h4).trans rfl))))) e2 dX6_fault_57
        · refine g_iconst (v := (-1)) C dX6_fault_49 (by decide) ?_
          refine g_goto (tgt := 57) C dX6_fault_50 (by decide) ?_
          exact g_iret C hret hlk (e1.trans (congrArg (fun z => some (Value.int z)) ((if_neg h1).trans ((if_pos h3n).trans ((if_pos h4).trans rfl))))) e2 dX6_fault_57
      · have h3n := (not_congr (nI_leI (a := 60) (b := j) (by omega) (by omega))).mp h3
        refine g_iload_n C dX6_fault_18 rfl 1 rfl ?_
        refine g_aload_n C dX6_fault_19 rfl 0 rfl ?_
        refine g_get (v := .ref (ad 119)) C iX6 (by decide) (mk_9 (by decide)) rfl 0 (by decide) L9 rfl dX6_fault_20 ?_
        refine g_iload_n C dX6_fault_23 rfl 2 rfl ?_
        refine g_cald (k := j) C 1 (by decide) (mk_10 (by decide)) rfl (vp_in_nI (n := j) (by omega) (by decide)) (nI_clamp (n := j) (by omega)) dX6_fault_24 ?_
        refine g_callS (rest := []) (st1 := [.int (f_X6_placeAfter p (ω 119 j) ω)]) C (c_X6_placeAfter p (ω 119 j) ω) (va_cwS 2 C.hts gX6_fault_X6_placeAfter rfl rfl rfl md_X6_placeAfter.2 ⟨Nat.le_of_ble_eq_true rfl, Nat.le_of_ble_eq_true rfl⟩) rfl rfl rfl (Nat.le_of_ble_eq_true rfl) dX6_fault_25 (Nat.zero_le _) (Nat.zero_le _) ?_
        refine g_istore_n (lv' := [(1, .int (f_X6_placeAfter p (ω 119 j) ω)), (0, .ref (ad 118)), (2, .int (nI (j)))]) C dX6_fault_28 rfl (by decide) rfl ?_
        refine g_iload_n C dX6_fault_29 rfl 0 rfl ?_
        refine g_bipush (v := 7) C dX6_fault_30 (by decide) ?_
        refine g_icmp_ne (tgt := 37) C dX6_fault_32 (by decide) (fun h5 => ?_) (fun h5 => ?_)
        · refine g_iinc (k := 2) (v := (nI (j + 1))) (lv' := [(2, .int (nI (j + 1))), (1, .int (f_X6_placeAfter p (ω 119 j) ω)), (0, .ref (ad 118))]) C dX6_fault_37 rfl (nI_1 (j)) (by decide) rfl ?_
          refine g_goto (tgt := 4) C dX6_fault_40 (by decide) ?_
          refine gv_lv (lv' := [(0, .ref (ad 118)), (1, .int (f_X6_placeAfter p (ω 119 j) ω)), (2, .int (nI (j + 1)))]) [2, 1, 0] rfl ?_
          exact ih (f_X6_placeAfter p (ω 119 j) ω) (j + 1) ω (by omega) (by omega) _ _ (e1.trans (congrArg (fun z => some (Value.int z)) ((if_neg h1).trans ((if_neg h3n).trans ((if_neg h5).trans rfl))))) e2
        · refine g_iload_n C dX6_fault_35 rfl 2 rfl ?_
          exact g_iret C hret hlk (e1.trans (congrArg (fun z => some (Value.int z)) ((if_neg h1).trans ((if_neg h3n).trans ((if_pos h5).trans rfl))))) e2 dX6_fault_36
def f_X6_fault  (ω : Mem) : Int32 := (f_X6_fault_4 61 0 0 ω)
set_option maxRecDepth 100000 in
set_option maxHeartbeats 4000000 in
theorem c_X6_fault {l_ : Launch} {sa : Nat → Nat} {D : va_G} {X : Nat → ClassId} {ad : Nat → Nat}  (ω : Mem)  : CT l_ yX6_fault wsX6_fault rm_X6_fault sa D (tyX X) 128 ad (mk X ad ω) [.ref (ad 118)] (some (.int (f_X6_fault ω)) : Option Value) (mk X ad ω) := by
  refine ct_of [(0, .ref (ad 118))] (by decide +kernel) rfl rfl (Nat.le_of_ble_eq_true rfl) rfl ?_
  intro p_ e_ s_ m_ args_ below_ meth_ c_ C hret hlk hin
  have e1 : (some (.int (f_X6_fault ω)) : Option Value) = (some (.int (f_X6_fault ω)) : Option Value) := rfl
  have e2 : mk X ad ω = mk X ad ω := rfl
  refine g_iconst (v := 0) C dX6_fault_0 (by decide) ?_
  refine g_istore_n (lv' := [(1, .int 0), (0, .ref (ad 118))]) C dX6_fault_1 rfl (by decide) rfl ?_
  refine g_iconst (v := 0) C dX6_fault_2 (by decide) ?_
  refine g_istore_n (lv' := [(2, .int 0), (1, .int 0), (0, .ref (ad 118))]) C dX6_fault_3 rfl (by decide) rfl ?_
  refine gv_lv (lv' := [(0, .ref (ad 118)), (1, .int 0), (2, .int 0)]) [2, 1, 0] rfl ?_
  exact k_X6_fault_4 (61)   C hret hlk 0 0 ω (by omega) (by omega) _ _ (e1.trans (congrArg (fun z => some (Value.int z)) rfl)) e2
abbrev rm_X6_readInto : Room := { frames := 3, cells := 0, slots := 0, locals := 66 }
theorem md_X6_readInto : yX6_readInto.cls = RX6 ∧ yX6_readInto.cls ≠ "java/lang/invoke/MethodHandle" ∧ yX6_readInto.cls ≠ "java/lang/invoke/VarHandle" ∧ (parseMethodDescriptor yX6_readInto.desc).map (fun d => d.parameters.length) = some 1 := by decide +kernel
def f_X6_readInto_11 : Nat → Nat → Int32 → Int32 → Nat → Mem → Int32 × Mem
  | 0, _, _, _, _, ω => (0, ω)
  | fu + 1, i, t, w, j, ω => (if (ω 118 1) ≤ (nI (j)) then (1, ω) else (if 60 ≤ j then (1, ω) else (if (ω 119 j) = 58 then (f_X6_readInto_11 fu i t 1 (j + 1) ω) else (if (ω 119 j) = 44 then (f_X6_readInto_11 fu i 0 0 (j + 1) ω) else (if w = 0 then (f_X6_readInto_11 fu i ((t * 10) + ((ω 119 j) - 48)) w (j + 1) ω) else (if (f_X3_put i t ((ω 119 j) - 48) ω).1 = 0 then (0, (f_X3_put i t ((ω 119 j) - 48) ω).2) else (f_X6_readInto_11 fu i t w (j + 1) (f_X3_put i t ((ω 119 j) - 48) ω).2)))))))
set_option maxRecDepth 100000 in
set_option maxHeartbeats 4000000 in
theorem k_X6_readInto_11 {l_ : Launch} {p_ : Program} {e_ : Env} {s_ : State} {m_ : MethodId} {args_ : Array Value} {below_ : List Frame} {meth_ : Method} {c_ : Code} {sa : Nat → Nat} {D : va_G} {X : Nat → ClassId} {ad : Nat → Nat} {G0 : Nat → va_E} (fu : Nat) (i : Nat) (hi : isPl i) (C : GC p_ rm_X6_readInto s_ m_ args_ meth_ c_ cX6_readInto 6 wsX6_readInto RX6 sa D (tyX X) (va_A (gw 128 ad G0) s_.heap.size)) (hret : meth_.sig.returnType = (some .boolean)) (hlk : meth_.locks = false) : ∀ (t : Int32) (w : Int32) (j : Nat) (ω : Mem) (hj : j ≤ 60) (hfuel : 60 < j + fu) (rv : Option Value) (G2 : Nat → va_E) (e1 : rv = some (.int (f_X6_readInto_11 fu i t w j ω).1)) (e2 : G2 = mk X ad (f_X6_readInto_11 fu i t w j ω).2), GV p_ l_ e_ rm_X6_readInto s_ m_ args_ below_ meth_ c_ 0 0 (CQ below_ args_ s_ D 128 ad G0 rv G2) D (va_A (gw 128 ad G0) s_.heap.size) 6 128 ad (mk X ad ω) [(0, .ref (ad 118)), (1, .ref (ad i)), (2, .int t), (3, .int w), (4, .int (nI (j)))] 11 [] := by
  have iX6 : ∀ w ∈ u_ws RX6 TX6 2, w ∈ wsX6_readInto := by decide +kernel
  have L13 : Cond.fieldLink RX6 13 (TX6 1).1 (TX6 1).2.1 (TX6 1).2.2.1 ∈ wsX6_readInto := by decide +kernel
  have L9 : Cond.fieldLink RX6 9 (TX6 0).1 (TX6 0).2.1 (TX6 0).2.2.1 ∈ wsX6_readInto := by decide +kernel
  induction fu with
  | zero =>
    intro t w j ω hj hfuel rv G2 e1 e2
    exact absurd hfuel (by omega)
  | succ fu ih =>
    intro t w j ω hj hfuel rv G2 e1 e2
    refine g_iload C dX6_readInto_11 4 rfl ?_
    refine g_aload_n C dX6_readInto_13 rfl 0 rfl ?_
    refine g_get (v := .int (ω 118 1)) C iX6 (by decide) (mk_9 (by decide)) rfl 1 (by decide) L13 rfl dX6_readInto_14 ?_
    refine g_icmp_ge (tgt := 101) C dX6_readInto_17 (by decide) (fun h1 => ?_) (fun h1 => ?_)
    · refine g_iconst (v := 1) C dX6_readInto_101 (by decide) ?_
      exact g_zret C hret hlk (nar_b (by decide)).1 (e1.trans (pr1 (v := 1) (w := ω) ((if_pos h1).trans rfl))) (e2.trans (pr2 (v := 1) (w := ω) ((if_pos h1).trans rfl))) dX6_readInto_102
    · refine g_iload C dX6_readInto_20 4 rfl ?_
      refine g_bipush (v := 60) C dX6_readInto_22 (by decide) ?_
      refine g_icmp_ge (tgt := 101) C dX6_readInto_24 (by decide) (fun h2 => ?_) (fun h2 => ?_)
      · have h2n := (nI_leI (a := 60) (b := j) (by omega) (by omega)).mp h2
        refine g_iconst (v := 1) C dX6_readInto_101 (by decide) ?_
        exact g_zret C hret hlk (nar_b (by decide)).1 (e1.trans (pr1 (v := 1) (w := ω) ((if_neg h1).trans ((if_pos h2n).trans rfl)))) (e2.trans (pr2 (v := 1) (w := ω) ((if_neg h1).trans ((if_pos h2n).trans rfl)))) dX6_readInto_102
      · have h2n := (not_congr (nI_leI (a := 60) (b := j) (by omega) (by omega))).mp h2
        refine g_aload_n C dX6_readInto_27 rfl 0 rfl ?_
        refine g_get (v := .ref (ad 119)) C iX6 (by decide) (mk_9 (by decide)) rfl 0 (by decide) L9 rfl dX6_readInto_28 ?_
        refine g_iload C dX6_readInto_31 4 rfl ?_
        refine g_cald (k := j) C 1 (by decide) (mk_10 (by decide)) rfl (vp_in_nI (n := j) (by omega) (by decide)) (nI_clamp (n := j) (by omega)) dX6_readInto_33 ?_
        refine g_istore (lv' := [(5, .int (ω 119 j)), (0, .ref (ad 118)), (1, .ref (ad i)), (2, .int t), (3, .int w), (4, .int (nI (j)))]) C dX6_readInto_34 (by decide) rfl ?_
        refine g_iload C dX6_readInto_36 0 rfl ?_
        refine g_bipush (v := 58) C dX6_readInto_38 (by decide) ?_
        refine g_icmp_ne (tgt := 48) C dX6_readInto_40 (by decide) (fun h3 => ?_) (fun h3 => ?_)
        · refine g_iload C dX6_readInto_48 0 rfl ?_
          refine g_bipush (v := 44) C dX6_readInto_50 (by decide) ?_
          refine g_icmp_ne (tgt := 62) C dX6_readInto_52 (by decide) (fun h4 => ?_) (fun h4 => ?_)
          · refine g_iload_n C dX6_readInto_62 rfl 4 rfl ?_
            refine g_if_ne (tgt := 80) C dX6_readInto_63 (by decide) (fun h5 => ?_) (fun h5 => ?_)
            · refine g_aload_n C dX6_readInto_80 rfl 2 rfl ?_
              refine g_iload_n C dX6_readInto_81 rfl 3 rfl ?_
              refine g_iload C dX6_readInto_82 0 rfl ?_
              refine g_bipush (v := 48) C dX6_readInto_84 (by decide) ?_
              refine g_isub (v := ((ω 119 j) - 48)) C dX6_readInto_86 rfl ?_
              refine g_callV (rest := []) (st1 := [.int (f_X3_put i t ((ω 119 j) - 48) ω).1]) C (c_X3_put i t ((ω 119 j) - 48) hi ω) (cwV 2 C.hts gX6_readInto_X3_put rfl rfl rfl md_X3_put ⟨Nat.le_of_ble_eq_true rfl, Nat.le_of_ble_eq_true rfl⟩) (hi).1 (mk_5 (hi).2.1) rfl rfl rfl rfl rfl (Nat.le_of_ble_eq_true rfl) dX6_readInto_87 (Nat.zero_le _) (Nat.zero_le _) ?_
              refine g_if_ne (tgt := 95) C dX6_readInto_90 (by decide) (fun h6 => ?_) (fun h6 => ?_)
              · refine g_iinc (k := 5) (v := (nI (j + 1))) (lv' := [(4, .int (nI (j + 1))), (5, .int (ω 119 j)), (0, .ref (ad 118)), (1, .ref (ad i)), (2, .int t), (3, .int w)]) C dX6_readInto_95 rfl (nI_1 (j)) (by decide) rfl ?_
                refine g_goto (tgt := 11) C dX6_readInto_98 (by decide) ?_
                refine gv_lv (lv' := [(0, .ref (ad 118)), (1, .ref (ad i)), (2, .int t), (3, .int w), (4, .int (nI (j + 1)))]) [2, 3, 4, 5, 0] rfl ?_
                exact ih t w (j + 1) (f_X3_put i t ((ω 119 j) - 48) ω).2 (by omega) (by omega) _ _ (e1.trans (congrArg (fun z : Int32 × Mem => some (Value.int z.1)) ((if_neg h1).trans ((if_neg h2n).trans ((if_neg h3).trans ((if_neg h4).trans ((if_neg h5).trans ((if_neg h6).trans rfl)))))))) (e2.trans (congrArg (fun z : Int32 × Mem => mk X ad z.2) ((if_neg h1).trans ((if_neg h2n).trans ((if_neg h3).trans ((if_neg h4).trans ((if_neg h5).trans ((if_neg h6).trans rfl))))))))
              · refine g_iconst (v := 0) C dX6_readInto_93 (by decide) ?_
                exact g_zret C hret hlk (nar_b (by decide)).1 (e1.trans (pr1 (v := 0) (w := (f_X3_put i t ((ω 119 j) - 48) ω).2) ((if_neg h1).trans ((if_neg h2n).trans ((if_neg h3).trans ((if_neg h4).trans ((if_neg h5).trans ((if_pos h6).trans rfl)))))))) (e2.trans (pr2 (v := 0) (w := (f_X3_put i t ((ω 119 j) - 48) ω).2) ((if_neg h1).trans ((if_neg h2n).trans ((if_neg h3).trans ((if_neg h4).trans ((if_neg h5).trans ((if_pos h6).trans rfl)))))))) dX6_readInto_94
            · refine g_iload_n C dX6_readInto_66 rfl 3 rfl ?_
              refine g_bipush (v := 10) C dX6_readInto_67 (by decide) ?_
              refine g_imul (v := (t * 10)) C dX6_readInto_69 rfl ?_
              refine g_iload C dX6_readInto_70 0 rfl ?_
              refine g_bipush (v := 48) C dX6_readInto_72 (by decide) ?_
              refine g_isub (v := ((ω 119 j) - 48)) C dX6_readInto_74 rfl ?_
              refine g_iadd (v := ((t * 10) + ((ω 119 j) - 48))) C dX6_readInto_75 rfl ?_
              refine g_istore_n (lv' := [(2, .int ((t * 10) + ((ω 119 j) - 48))), (5, .int (ω 119 j)), (0, .ref (ad 118)), (1, .ref (ad i)), (3, .int w), (4, .int (nI (j)))]) C dX6_readInto_76 rfl (by decide) rfl ?_
              refine g_goto (tgt := 95) C dX6_readInto_77 (by decide) ?_
              refine g_iinc (k := 5) (v := (nI (j + 1))) (lv' := [(4, .int (nI (j + 1))), (2, .int ((t * 10) + ((ω 119 j) - 48))), (5, .int (ω 119 j)), (0, .ref (ad 118)), (1, .ref (ad i)), (3, .int w)]) C dX6_readInto_95 rfl (nI_1 (j)) (by decide) rfl ?_
              refine g_goto (tgt := 11) C dX6_readInto_98 (by decide) ?_
              refine gv_lv (lv' := [(0, .ref (ad 118)), (1, .ref (ad i)), (2, .int ((t * 10) + ((ω 119 j) - 48))), (3, .int w), (4, .int (nI (j + 1)))]) [3, 4, 1, 5, 0] rfl ?_
              exact ih ((t * 10) + ((ω 119 j) - 48)) w (j + 1) ω (by omega) (by omega) _ _ (e1.trans (congrArg (fun z : Int32 × Mem => some (Value.int z.1)) ((if_neg h1).trans ((if_neg h2n).trans ((if_neg h3).trans ((if_neg h4).trans ((if_pos h5).trans rfl))))))) (e2.trans (congrArg (fun z : Int32 × Mem => mk X ad z.2) ((if_neg h1).trans ((if_neg h2n).trans ((if_neg h3).trans ((if_neg h4).trans ((if_pos h5).trans rfl)))))))
          · refine g_iconst (v := 0) C dX6_readInto_55 (by decide) ?_
            refine g_istore_n (lv' := [(3, .int 0), (5, .int (ω 119 j)), (0, .ref (ad 118)), (1, .ref (ad i)), (2, .int t), (4, .int (nI (j)))]) C dX6_readInto_56 rfl (by decide) rfl ?_
            refine g_iconst (v := 0) C dX6_readInto_57 (by decide) ?_
            refine g_istore_n (lv' := [(2, .int 0), (3, .int 0), (5, .int (ω 119 j)), (0, .ref (ad 118)), (1, .ref (ad i)), (4, .int (nI (j)))]) C dX6_readInto_58 rfl (by decide) rfl ?_
            refine g_goto (tgt := 95) C dX6_readInto_59 (by decide) ?_
            refine g_iinc (k := 5) (v := (nI (j + 1))) (lv' := [(4, .int (nI (j + 1))), (2, .int 0), (3, .int 0), (5, .int (ω 119 j)), (0, .ref (ad 118)), (1, .ref (ad i))]) C dX6_readInto_95 rfl (nI_1 (j)) (by decide) rfl ?_
            refine g_goto (tgt := 11) C dX6_readInto_98 (by decide) ?_
            refine gv_lv (lv' := [(0, .ref (ad 118)), (1, .ref (ad i)), (2, .int 0), (3, .int 0), (4, .int (nI (j + 1)))]) [4, 5, 1, 2, 0] rfl ?_
            exact ih 0 0 (j + 1) ω (by omega) (by omega) _ _ (e1.trans (congrArg (fun z : Int32 × Mem => some (Value.int z.1)) ((if_neg h1).trans ((if_neg h2n).trans ((if_neg h3).trans ((if_pos h4).trans rfl)))))) (e2.trans (congrArg (fun z : Int32 × Mem => mk X ad z.2) ((if_neg h1).trans ((if_neg h2n).trans ((if_neg h3).trans ((if_pos h4).trans rfl))))))
        · refine g_iconst (v := 1) C dX6_readInto_43 (by decide) ?_
          refine g_istore_n (lv' := [(3, .int 1), (5, .int (ω 119 j)), (0, .ref (ad 118)), (1, .ref (ad i)), (2, .int t), (4, .int (nI (j)))]) C dX6_readInto_44 rfl (by decide) rfl ?_
          refine g_goto (tgt := 95) C dX6_readInto_45 (by decide) ?_
          refine g_iinc (k := 5) (v := (nI (j + 1))) (lv' := [(4, .int (nI (j + 1))), (3, .int 1), (5, .int (ω 119 j)), (0, .ref (ad 118)), (1, .ref (ad i)), (2, .int t)]) C dX6_readInto_95 rfl (nI_1 (j)) (by decide) rfl ?_
          refine g_goto (tgt := 11) C dX6_readInto_98 (by decide) ?_
          refine gv_lv (lv' := [(0, .ref (ad 118)), (1, .ref (ad i)), (2, .int t), (3, .int 1), (4, .int (nI (j + 1)))]) [3, 4, 5, 1, 0] rfl ?_
          exact ih t 1 (j + 1) ω (by omega) (by omega) _ _ (e1.trans (congrArg (fun z : Int32 × Mem => some (Value.int z.1)) ((if_neg h1).trans ((if_neg h2n).trans ((if_pos h3).trans rfl))))) (e2.trans (congrArg (fun z : Int32 × Mem => mk X ad z.2) ((if_neg h1).trans ((if_neg h2n).trans ((if_pos h3).trans rfl)))))
def f_X6_readInto (i : Nat) (ω : Mem) : Int32 × Mem := (f_X6_readInto_11 61 i 0 0 0 (f_X3_clear i ω))
set_option maxRecDepth 100000 in
set_option maxHeartbeats 4000000 in
theorem c_X6_readInto {l_ : Launch} {sa : Nat → Nat} {D : va_G} {X : Nat → ClassId} {ad : Nat → Nat} (i : Nat) (hi : isPl i) (ω : Mem)  : CT l_ yX6_readInto wsX6_readInto rm_X6_readInto sa D (tyX X) 128 ad (mk X ad ω) [.ref (ad 118), .ref (ad i)] (some (.int (f_X6_readInto i ω).1) : Option Value) (mk X ad (f_X6_readInto i ω).2) := by
  refine ct_of [(0, .ref (ad 118)), (1, .ref (ad i))] (by decide +kernel) rfl rfl (Nat.le_of_ble_eq_true rfl) rfl ?_
  intro p_ e_ s_ m_ args_ below_ meth_ c_ C hret hlk hin
  have e1 : (some (.int (f_X6_readInto i ω).1) : Option Value) = (some (.int (f_X6_readInto i ω).1) : Option Value) := rfl
  have e2 : mk X ad (f_X6_readInto i ω).2 = mk X ad (f_X6_readInto i ω).2 := rfl
  refine g_aload_n C dX6_readInto_0 rfl 1 rfl ?_
  refine g_callV (rest := []) (st1 := []) C (c_X3_clear i hi ω) (cwV 0 C.hts gX6_readInto_X3_clear rfl rfl rfl md_X3_clear ⟨Nat.le_of_ble_eq_true rfl, Nat.le_of_ble_eq_true rfl⟩) (hi).1 (mk_5 (hi).2.1) rfl rfl rfl rfl rfl (Nat.le_of_ble_eq_true rfl) dX6_readInto_1 (Nat.zero_le _) (Nat.zero_le _) ?_
  refine g_iconst (v := 0) C dX6_readInto_4 (by decide) ?_
  refine g_istore_n (lv' := [(2, .int 0), (0, .ref (ad 118)), (1, .ref (ad i))]) C dX6_readInto_5 rfl (by decide) rfl ?_
  refine g_iconst (v := 0) C dX6_readInto_6 (by decide) ?_
  refine g_istore_n (lv' := [(3, .int 0), (2, .int 0), (0, .ref (ad 118)), (1, .ref (ad i))]) C dX6_readInto_7 rfl (by decide) rfl ?_
  refine g_iconst (v := 0) C dX6_readInto_8 (by decide) ?_
  refine g_istore (lv' := [(4, .int 0), (3, .int 0), (2, .int 0), (0, .ref (ad 118)), (1, .ref (ad i))]) C dX6_readInto_9 (by decide) rfl ?_
  refine gv_lv (lv' := [(0, .ref (ad 118)), (1, .ref (ad i)), (2, .int 0), (3, .int 0), (4, .int 0)]) [3, 4, 2, 1, 0] rfl ?_
  exact k_X6_readInto_11 (61) i hi C hret hlk 0 0 0 (f_X3_clear i ω) (by omega) (by omega) _ _ (e1.trans (congrArg (fun z : Int32 × Mem => some (Value.int z.1)) rfl)) (e2.trans (congrArg (fun z : Int32 × Mem => mk X ad z.2) rfl))
