abbrev rm_X8_readPlan : Room := { frames := 4, cells := 0, slots := 0, locals := 87 }
theorem md_X8_readPlan : yX8_readPlan.cls = RX8 ∧ yX8_readPlan.cls ≠ "java/lang/invoke/MethodHandle" ∧ yX8_readPlan.cls ≠ "java/lang/invoke/VarHandle" ∧ (parseMethodDescriptor yX8_readPlan.desc).map (fun d => d.parameters.length) = some 0 := by decide +kernel
def f_X8_readPlan_71 : Nat → Nat → Mem → Int32 × Mem
  | 0, _, ω => (0, ω)
  | fu + 1, j, ω => (if (ω 120 11).toNatClampNeg ≤ j then ((ω 121 43), ω) else (f_X8_readPlan_71 fu (j + 1) (f_X8_plans (ω 126 j) (ω 127 j) ω)))
set_option maxRecDepth 100000 in
set_option maxHeartbeats 4000000 in
theorem k_X8_readPlan_71 {l_ : Launch} {p_ : Program} {e_ : Env} {s_ : State} {m_ : MethodId} {args_ : Array Value} {below_ : List Frame} {meth_ : Method} {c_ : Code} {sa : Nat → Nat} {D : va_G} {X : Nat → ClassId} {ad : Nat → Nat} {G0 : Nat → va_E} (fu : Nat)  (C : GC p_ rm_X8_readPlan s_ m_ args_ meth_ c_ cX8_readPlan 3 wsX8_readPlan RX8 sa D (tyX X) (va_A (gw 128 ad G0) s_.heap.size)) (hret : meth_.sig.returnType = (some .int)) (hlk : meth_.locks = false) : ∀ (j : Nat) (ω : Mem) (hmi : MIn 10 ω) (hrm : rg (ω 120 11) 20) (hg : goodP fu j ω) (hj : j ≤ 20) (hfuel : 20 < j + fu) (rv : Option Value) (G2 : Nat → va_E) (e1 : rv = some (.int (f_X8_readPlan_71 fu j ω).1)) (e2 : G2 = mk X ad (f_X8_readPlan_71 fu j ω).2), GV p_ l_ e_ rm_X8_readPlan s_ m_ args_ below_ meth_ c_ 0 0 (CQ below_ args_ s_ D 128 ad G0 rv G2) D (va_A (gw 128 ad G0) s_.heap.size) 3 128 ad (mk X ad ω) [(0, .ref (ad 120)), (2, .int (nI (j)))] 71 [] := by
  have iX8 : ∀ w ∈ u_ws RX8 TX8 14, w ∈ wsX8_readPlan := by decide +kernel
  have L127 : Cond.fieldLink RX8 127 (TX8 11).1 (TX8 11).2.1 (TX8 11).2.2.1 ∈ wsX8_readPlan := by decide +kernel
  have L25 : Cond.fieldLink RX8 25 (TX8 9).1 (TX8 9).2.1 (TX8 9).2.2.1 ∈ wsX8_readPlan := by decide +kernel
  have L28 : Cond.fieldLink RX8 28 (TX8 10).1 (TX8 10).2.1 (TX8 10).2.2.1 ∈ wsX8_readPlan := by decide +kernel
  have L7 : Cond.fieldLink RX8 7 (TX8 1).1 (TX8 1).2.1 (TX8 1).2.2.1 ∈ wsX8_readPlan := by decide +kernel
  induction fu with
  | zero =>
    intro j ω hmi hrm hg hj hfuel rv G2 e1 e2
    have hf1 := hrm.2
    exact absurd hfuel (by omega)
  | succ fu ih =>
    intro j ω hmi hrm hg hj hfuel rv G2 e1 e2
    have hf1 := hrm.2
    refine g_iload_n C dX8_readPlan_71 rfl 1 rfl ?_
    refine g_aload_n C dX8_readPlan_72 rfl 0 rfl ?_
    refine g_get (v := .int (ω 120 11)) C iX8 (by decide) (mk_11 (by decide)) rfl 11 (by decide) L127 rfl dX8_readPlan_73 ?_
    have hz1 : (ω 120 11).toNatClampNeg ≤ _ := (hrm).2
    refine gv_eqS (st' := [.int (nI ((ω 120 11).toNatClampNeg)), .int (nI (j))]) (congrArg (fun z : Int32 => ([Value.int z, .int (nI (j))] : List Value)) (hrm).1) ?_
    refine g_icmp_ge (tgt := 101) C dX8_readPlan_76 (by decide) (fun h2 => ?_) (fun h2 => ?_)
    · have h2n := (nI_leI (a := (ω 120 11).toNatClampNeg) (b := j) (by omega) (by omega)).mp h2
      refine g_aload_n C dX8_readPlan_101 rfl 0 rfl ?_
      refine g_get (v := .ref (ad 121)) C iX8 (by decide) (mk_11 (by decide)) rfl 1 (by decide) L7 rfl dX8_readPlan_102 ?_
      refine g_bipush (v := 43) C dX8_readPlan_105 (by decide) ?_
      refine g_iald (k := 43) C 0 (by decide) (mk_12n (N := 108) (by decide) (by decide)) rfl (by unfold vp_in; decide) rfl dX8_readPlan_107 ?_
      exact g_iret C hret hlk (e1.trans (pr1 (v := (ω 121 43)) (w := ω) ((if_pos h2n).trans rfl))) (e2.trans (pr2 (v := (ω 121 43)) (w := ω) ((if_pos h2n).trans rfl))) dX8_readPlan_108
    · have h2n := (not_congr (nI_leI (a := (ω 120 11).toNatClampNeg) (b := j) (by omega) (by omega))).mp h2
      refine g_aload_n C dX8_readPlan_79 rfl 0 rfl ?_
      refine g_aload_n C dX8_readPlan_80 rfl 0 rfl ?_
      refine g_get (v := .ref (ad 126)) C iX8 (by decide) (mk_11 (by decide)) rfl 9 (by decide) L25 rfl dX8_readPlan_81 ?_
      refine g_iload_n C dX8_readPlan_84 rfl 1 rfl ?_
      refine g_iald (k := j) C 0 (by decide) (mk_12n (N := 32) (by decide) (by decide)) rfl (vp_in_nI (n := j) (by omega) (by decide)) (nI_clamp (n := j) (by omega)) dX8_readPlan_85 ?_
      refine g_aload_n C dX8_readPlan_86 rfl 0 rfl ?_
      refine g_get (v := .ref (ad 127)) C iX8 (by decide) (mk_11 (by decide)) rfl 10 (by decide) L28 rfl dX8_readPlan_87 ?_
      refine g_iload_n C dX8_readPlan_90 rfl 1 rfl ?_
      refine g_iald (k := j) C 0 (by decide) (mk_12n (N := 32) (by decide) (by decide)) rfl (vp_in_nI (n := j) (by omega) (by decide)) (nI_clamp (n := j) (by omega)) dX8_readPlan_91 ?_
      refine g_callV (rest := []) (st1 := []) C (c_X8_plans (ω 126 j) (ω 127 j) ω hmi (hg (by omega)).1) (cwV 2 C.hts gX8_readPlan_X8_plans rfl rfl rfl md_X8_plans ⟨Nat.le_of_ble_eq_true rfl, Nat.le_of_ble_eq_true rfl⟩) (by decide) (mk_11 (by decide)) rfl rfl rfl rfl rfl (Nat.le_of_ble_eq_true rfl) dX8_readPlan_92 (Nat.zero_le _) (Nat.zero_le _) ?_
      refine g_iinc (k := 1) (v := (nI (j + 1))) (lv' := [(2, .int (nI (j + 1))), (0, .ref (ad 120))]) C dX8_readPlan_95 rfl (nI_1 (j)) (by decide) rfl ?_
      refine g_goto (tgt := 71) C dX8_readPlan_98 (by decide) ?_
      refine gv_lv (lv' := [(0, .ref (ad 120)), (2, .int (nI (j + 1)))]) [1, 0] rfl ?_
      exact ih (j + 1) (f_X8_plans (ω 126 j) (ω 127 j) ω) (mi_X8_plans (ω 126 j) (ω 127 j) ω hmi (hg (by omega)).1) (by rw [plans_fr (by decide)]; exact hrm) (hg (by omega)).2 (by omega) (by omega) _ _ (e1.trans (congrArg (fun z : Int32 × Mem => some (Value.int z.1)) ((if_neg h2n).trans rfl))) (e2.trans (congrArg (fun z : Int32 × Mem => mk X ad z.2) ((if_neg h2n).trans rfl)))
def f_X8_readPlan_39 : Nat → Nat → Mem → Int32 × Mem
  | 0, _, ω => (0, ω)
  | fu + 1, j, ω => (if 24 ≤ j then (f_X8_readPlan_71 33 0 (st ω 121 43 0)) else (f_X8_readPlan_39 fu (j + 1) (st ω 121 (44 + j) 0)))
set_option maxRecDepth 100000 in
set_option maxHeartbeats 4000000 in
theorem k_X8_readPlan_39 {l_ : Launch} {p_ : Program} {e_ : Env} {s_ : State} {m_ : MethodId} {args_ : Array Value} {below_ : List Frame} {meth_ : Method} {c_ : Code} {sa : Nat → Nat} {D : va_G} {X : Nat → ClassId} {ad : Nat → Nat} {G0 : Nat → va_E} (fu : Nat)  (C : GC p_ rm_X8_readPlan s_ m_ args_ meth_ c_ cX8_readPlan 3 wsX8_readPlan RX8 sa D (tyX X) (va_A (gw 128 ad G0) s_.heap.size)) (hret : meth_.sig.returnType = (some .int)) (hlk : meth_.locks = false) : ∀ (j : Nat) (ω : Mem) (hmi : MIn 10 ω) (hrm : rg (ω 120 11) 20) (hg : goodP 33 0 (st (clr fu j ω) 121 43 0)) (hj : j ≤ 24) (hfuel : 24 < j + fu) (rv : Option Value) (G2 : Nat → va_E) (e1 : rv = some (.int (f_X8_readPlan_39 fu j ω).1)) (e2 : G2 = mk X ad (f_X8_readPlan_39 fu j ω).2), GV p_ l_ e_ rm_X8_readPlan s_ m_ args_ below_ meth_ c_ 0 0 (CQ below_ args_ s_ D 128 ad G0 rv G2) D (va_A (gw 128 ad G0) s_.heap.size) 3 128 ad (mk X ad ω) [(0, .ref (ad 120)), (2, .int (nI (j)))] 39 [] := by
  have iX8 : ∀ w ∈ u_ws RX8 TX8 14, w ∈ wsX8_readPlan := by decide +kernel
  have L7 : Cond.fieldLink RX8 7 (TX8 1).1 (TX8 1).2.1 (TX8 1).2.2.1 ∈ wsX8_readPlan := by decide +kernel
  induction fu with
  | zero =>
    intro j ω hmi hrm hg hj hfuel rv G2 e1 e2
    exact absurd hfuel (by omega)
  | succ fu ih =>
    intro j ω hmi hrm hg hj hfuel rv G2 e1 e2
    refine g_iload_n C dX8_readPlan_39 rfl 1 rfl ?_
    refine g_bipush (v := 24) C dX8_readPlan_40 (by decide) ?_
    refine g_icmp_ge (tgt := 61) C dX8_readPlan_42 (by decide) (fun h1 => ?_) (fun h1 => ?_)
    · have h1n := (nI_leI (a := 24) (b := j) (by omega) (by omega)).mp h1
      refine g_aload_n C dX8_readPlan_61 rfl 0 rfl ?_
      refine g_get (v := .ref (ad 121)) C iX8 (by decide) (mk_11 (by decide)) rfl 1 (by decide) L7 rfl dX8_readPlan_62 ?_
      refine g_bipush (v := 43) C dX8_readPlan_65 (by decide) ?_
      refine g_iconst (v := 0) C dX8_readPlan_67 (by decide) ?_
      refine g_iast (k := 43) C 0 (by decide) (mk_12n (N := 108) (by decide) (by decide)) rfl (by unfold vp_in; decide) rfl dX8_readPlan_68 ?_
      refine gv_eqG (mk_row (N := 108) (by decide) (by decide)) ?_
      refine g_iconst (v := 0) C dX8_readPlan_69 (by decide) ?_
      refine g_istore_n (lv' := [(2, .int 0), (0, .ref (ad 120))]) C dX8_readPlan_70 rfl (by decide) rfl ?_
      refine gv_lv (lv' := [(0, .ref (ad 120)), (2, .int 0)]) [1, 0] rfl ?_
      exact k_X8_readPlan_71 (33)   C hret hlk 0 (st ω 121 43 0) (MIn_43 hmi (rg_of (j := 0) (by decide) (by decide))) hrm (by have q := hg; unfold clr at q; rw [if_pos (by omega)] at q; exact q) (by omega) (by omega) _ _ (e1.trans (congrArg (fun z : Int32 × Mem => some (Value.int z.1)) ((if_pos h1n).trans rfl))) (e2.trans (congrArg (fun z : Int32 × Mem => mk X ad z.2) ((if_pos h1n).trans rfl)))
    · have h1n := (not_congr (nI_leI (a := 24) (b := j) (by omega) (by omega))).mp h1
      refine g_aload_n C dX8_readPlan_45 rfl 0 rfl ?_
      refine g_get (v := .ref (ad 121)) C iX8 (by decide) (mk_11 (by decide)) rfl 1 (by decide) L7 rfl dX8_readPlan_46 ?_
      refine g_bipush (v := 44) C dX8_readPlan_49 (by decide) ?_
      refine g_iload_n C dX8_readPlan_51 rfl 1 rfl ?_
      refine g_iadd (v := (nI (44 + j))) C dX8_readPlan_52 (nI_add (44) (j)) ?_
      refine g_iconst (v := 0) C dX8_readPlan_53 (by decide) ?_
      refine g_iast (k := 44 + j) C 0 (by decide) (mk_12n (N := 108) (by decide) (by decide)) rfl (vp_in_nI (n := 44 + j) (by omega) (by decide)) (nI_clamp (n := 44 + j) (by omega)) dX8_readPlan_54 ?_
      refine gv_eqG (mk_row (N := 108) (by decide) (by decide)) ?_
      refine g_iinc (k := 1) (v := (nI (j + 1))) (lv' := [(2, .int (nI (j + 1))), (0, .ref (ad 120))]) C dX8_readPlan_55 rfl (nI_1 (j)) (by decide) rfl ?_
      refine g_goto (tgt := 39) C dX8_readPlan_58 (by decide) ?_
      refine gv_lv (lv' := [(0, .ref (ad 120)), (2, .int (nI (j + 1)))]) [1, 0] rfl ?_
      exact ih (j + 1) (st ω 121 (44 + j) 0) (MIn_s hmi (by omega) (by omega)) hrm (by have q := hg; unfold clr at q; rw [if_neg (by omega)] at q; exact q) (by omega) (by omega) _ _ (e1.trans (congrArg (fun z : Int32 × Mem => some (Value.int z.1)) ((if_neg h1n).trans rfl))) (e2.trans (congrArg (fun z : Int32 × Mem => mk X ad z.2) ((if_neg h1n).trans rfl)))
def f_X8_readPlan  (ω : Mem) : Int32 × Mem := (if (f_X8_reads (st ω 120 0 0)).1 = (-5) then (if (f_X8_unlikeTicks (f_X8_reads (st ω 120 0 0)).2) ≤ 12 then (f_X8_readPlan_39 25 0 (f_X8_records (f_X8_reads (st ω 120 0 0)).2)) else ((-3), (f_X8_reads (st ω 120 0 0)).2)) else (((-100) - (f_X8_reads (st ω 120 0 0)).1), (f_X8_reads (st ω 120 0 0)).2))
set_option maxRecDepth 100000 in
set_option maxHeartbeats 4000000 in
theorem c_X8_readPlan {l_ : Launch} {sa : Nat → Nat} {D : va_G} {X : Nat → ClassId} {ad : Nat → Nat}  (ω : Mem) (hmi : MIn 10 ω) (hlen : rg (ω 120 8) 60) (hg : (f_X8_reads (st ω 120 0 0)).1 = (-5) → (f_X8_unlikeTicks (f_X8_reads (st ω 120 0 0)).2) ≤ 12 → goodP 33 0 (st (clr 25 0 (f_X8_records (f_X8_reads (st ω 120 0 0)).2)) 121 43 0)) : CT l_ yX8_readPlan wsX8_readPlan rm_X8_readPlan sa D (tyX X) 128 ad (mk X ad ω) [.ref (ad 120)] (some (.int (f_X8_readPlan ω).1) : Option Value) (mk X ad (f_X8_readPlan ω).2) := by
  refine ct_of [(0, .ref (ad 120))] (by decide +kernel) rfl rfl (Nat.le_of_ble_eq_true rfl) rfl ?_
  intro p_ e_ s_ m_ args_ below_ meth_ c_ C hret hlk hin
  have e1 : (some (.int (f_X8_readPlan ω).1) : Option Value) = (some (.int (f_X8_readPlan ω).1) : Option Value) := rfl
  have e2 : mk X ad (f_X8_readPlan ω).2 = mk X ad (f_X8_readPlan ω).2 := rfl
  have iX8 : ∀ w ∈ u_ws RX8 TX8 14, w ∈ wsX8_readPlan := by decide +kernel
  have L31 : Cond.fieldLink RX8 31 (TX8 0).1 (TX8 0).2.1 (TX8 0).2.2.1 ∈ wsX8_readPlan := by decide +kernel
  refine g_aload_n C dX8_readPlan_0 rfl 0 rfl ?_
  refine g_iconst (v := 0) C dX8_readPlan_1 (by decide) ?_
  refine g_put C iX8 tyX8 tyX8_ok nmX8 (by decide) (mk_11 (by decide)) rfl 0 (by decide) L31 rfl rfl rfl (Nat.le_of_ble_eq_true rfl) dX8_readPlan_2 ?_
  refine gv_eqG (mkp_11_0 (by decide)) ?_
  refine g_aload_n C dX8_readPlan_5 rfl 0 rfl ?_
  refine g_callV (rest := []) (st1 := [.int (f_X8_reads (st ω 120 0 0)).1]) C (c_X8_reads (st ω 120 0 0) hlen) (cwV 0 C.hts gX8_readPlan_X8_reads rfl rfl rfl md_X8_reads ⟨Nat.le_of_ble_eq_true rfl, Nat.le_of_ble_eq_true rfl⟩) (by decide) (mk_11 (by decide)) rfl rfl rfl rfl rfl (Nat.le_of_ble_eq_true rfl) dX8_readPlan_6 (Nat.zero_le _) (Nat.zero_le _) ?_
  refine g_istore_n (lv' := [(1, .int (f_X8_reads (st ω 120 0 0)).1), (0, .ref (ad 120))]) C dX8_readPlan_9 rfl (by decide) rfl ?_
  refine g_iload_n C dX8_readPlan_10 rfl 0 rfl ?_
  refine g_bipush (v := (-5)) C dX8_readPlan_11 (by decide) ?_
  refine g_icmp_eq (tgt := 21) C dX8_readPlan_13 (by decide) (fun h1 => ?_) (fun h1 => ?_)
  · refine g_aload_n C dX8_readPlan_21 rfl 1 rfl ?_
    refine g_callV (rest := []) (st1 := [.int (f_X8_unlikeTicks (f_X8_reads (st ω 120 0 0)).2)]) C (c_X8_unlikeTicks (f_X8_reads (st ω 120 0 0)).2 (reads_all (ω := (st ω 120 0 0)) hlen).1.2.2.2.1) (cwV 0 C.hts gX8_readPlan_X8_unlikeTicks rfl rfl rfl md_X8_unlikeTicks ⟨Nat.le_of_ble_eq_true rfl, Nat.le_of_ble_eq_true rfl⟩) (by decide) (mk_11 (by decide)) rfl rfl rfl rfl rfl (Nat.le_of_ble_eq_true rfl) dX8_readPlan_22 (Nat.zero_le _) (Nat.zero_le _) ?_
    refine g_bipush (v := 12) C dX8_readPlan_25 (by decide) ?_
    refine g_icmp_le (tgt := 33) C dX8_readPlan_27 (by decide) (fun h2 => ?_) (fun h2 => ?_)
    · refine g_aload_n C dX8_readPlan_33 rfl 1 rfl ?_
      refine g_callV (rest := []) (st1 := []) C (c_X8_records (f_X8_reads (st ω 120 0 0)).2 (reads_MI hlen (MIn_f hmi (by decide)))) (cwV 0 C.hts gX8_readPlan_X8_records rfl rfl rfl md_X8_records ⟨Nat.le_of_ble_eq_true rfl, Nat.le_of_ble_eq_true rfl⟩) (by decide) (mk_11 (by decide)) rfl rfl rfl rfl rfl (Nat.le_of_ble_eq_true rfl) dX8_readPlan_34 (Nat.zero_le _) (Nat.zero_le _) ?_
      refine g_iconst (v := 0) C dX8_readPlan_37 (by decide) ?_
      refine g_istore_n (lv' := [(2, .int 0), (1, .int (f_X8_reads (st ω 120 0 0)).1), (0, .ref (ad 120))]) C dX8_readPlan_38 rfl (by decide) rfl ?_
      refine gv_lv (lv' := [(0, .ref (ad 120)), (2, .int 0)]) [2, 0] rfl ?_
      exact k_X8_readPlan_39 (25)   C hret hlk 0 (f_X8_records (f_X8_reads (st ω 120 0 0)).2) (mi_X8_records (f_X8_reads (st ω 120 0 0)).2 (reads_MI hlen (MIn_f hmi (by decide)))) (by rw [(records_fr _).2 11 (by decide)]; exact (reads_all (ω := (st ω 120 0 0)) hlen).1.2.2.2.1) (hg h1 h2) (by omega) (by omega) _ _ (e1.trans (congrArg (fun z : Int32 × Mem => some (Value.int z.1)) ((if_pos h1).trans ((if_pos h2).trans rfl)))) (e2.trans (congrArg (fun z : Int32 × Mem => mk X ad z.2) ((if_pos h1).trans ((if_pos h2).trans rfl))))
    · refine g_bipush (v := (-3)) C dX8_readPlan_30 (by decide) ?_
      exact g_iret C hret hlk (e1.trans (pr1 (v := (-3)) (w := (f_X8_reads (st ω 120 0 0)).2) ((if_pos h1).trans ((if_neg h2).trans rfl)))) (e2.trans (pr2 (v := (-3)) (w := (f_X8_reads (st ω 120 0 0)).2) ((if_pos h1).trans ((if_neg h2).trans rfl)))) dX8_readPlan_32
  · refine g_bipush (v := (-100)) C dX8_readPlan_16 (by decide) ?_
    refine g_iload_n C dX8_readPlan_18 rfl 0 rfl ?_
    refine g_isub (v := ((-100) - (f_X8_reads (st ω 120 0 0)).1)) C dX8_readPlan_19 rfl ?_
    exact g_iret C hret hlk (e1.trans (pr1 (v := ((-100) - (f_X8_reads (st ω 120 0 0)).1)) (w := (f_X8_reads (st ω 120 0 0)).2) ((if_neg h1).trans rfl))) (e2.trans (pr2 (v := ((-100) - (f_X8_reads (st ω 120 0 0)).1)) (w := (f_X8_reads (st ω 120 0 0)).2) ((if_neg h1).trans rfl))) dX8_readPlan_20
