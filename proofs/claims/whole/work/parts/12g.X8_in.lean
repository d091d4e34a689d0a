abbrev rm_X8_in : Room := { frames := 0, cells := 0, slots := 0, locals := 0 }
theorem md_X8_in : yX8_in.cls = RX8 ∧ yX8_in.cls ≠ "java/lang/invoke/MethodHandle" ∧ yX8_in.cls ≠ "java/lang/invoke/VarHandle" ∧ (parseMethodDescriptor yX8_in.desc).map (fun d => d.parameters.length) = some 3 := by decide +kernel
def f_X8_in (v : Int32) (a : Int32) (b : Int32) (ω : Mem) : Int32 := (if v < a then 0 else (if b < v then 0 else 1))
set_option maxRecDepth 100000 in
set_option maxHeartbeats 4000000 in
theorem c_X8_in {l_ : Launch} {sa : Nat → Nat} {D : va_G} {X : Nat → ClassId} {ad : Nat → Nat} (v : Int32) (a : Int32) (b : Int32) (ω : Mem)  : CT l_ yX8_in wsX8_in rm_X8_in sa D (tyX X) 128 ad (mk X ad ω) [.int v, .int a, .int b] (some (.int (f_X8_in v a b ω)) : Option Value) (mk X ad ω) := by
  refine ct_of [(0, .int v), (1, .int a), (2, .int b)] (by decide +kernel) rfl rfl (Nat.le_of_ble_eq_true rfl) rfl ?_
  intro p_ e_ s_ m_ args_ below_ meth_ c_ C hret hlk hin
  have e1 : (some (.int (f_X8_in v a b ω)) : Option Value) = (some (.int (f_X8_in v a b ω)) : Option Value) := rfl
  have e2 : mk X ad ω = mk X ad ω := rfl
  refine g_iload_n C dX8_in_0 rfl 0 rfl ?_
  refine g_iload_n C dX8_in_1 rfl 1 rfl ?_
  refine g_icmp_lt (tgt := 14) C dX8_in_2 (by decide) (fun h1 => ?_) (fun h1 => ?_)
  · refine g_iconst (v := 0) C dX8_in_14 (by decide) ?_
    exact g_zret C hret hlk (nar_b (by decide)).1 (e1.trans (congrArg (fun z => some (Value.int z)) ((if_pos h1).trans rfl))) e2 dX8_in_15
  · refine g_iload_n C dX8_in_5 rfl 0 rfl ?_
    refine g_iload_n C dX8_in_6 rfl 2 rfl ?_
    refine g_icmp_gt (tgt := 14) C dX8_in_7 (by decide) (fun h2 => ?_) (fun h2 => ?_)
    · refine g_iconst (v := 0) C dX8_in_14 (by decide) ?_
      exact g_zret C hret hlk (nar_b (by decide)).1 (e1.trans (congrArg (fun z => some (Value.int z)) ((if_neg h1).trans ((if_pos h2).trans rfl)))) e2 dX8_in_15
    · refine g_iconst (v := 1) C dX8_in_10 (by decide) ?_
      refine g_goto (tgt := 15) C dX8_in_11 (by decide) ?_
      exact g_zret C hret hlk (nar_b (by decide)).1 (e1.trans (congrArg (fun z => some (Value.int z)) ((if_neg h1).trans ((if_neg h2).trans rfl)))) e2 dX8_in_15
theorem z_X8_in {v : Int32} {a : Int32} {b : Int32} {ω : Mem} : bb (f_X8_in v a b ω) = f_X8_in v a b ω := by
  unfold f_X8_in
  repeat' split
  all_goals first | with_reducible exact bb_bb _ | decide
abbrev rm_X8_isBurner : Room := { frames := 1, cells := 0, slots := 0, locals := 22 }
theorem md_X8_isBurner : yX8_isBurner.cls = RX8 ∧ yX8_isBurner.cls ≠ "java/lang/invoke/MethodHandle" ∧ yX8_isBurner.cls ≠ "java/lang/invoke/VarHandle" ∧ (parseMethodDescriptor yX8_isBurner.desc).map (fun d => d.parameters.length) = some 1 := by decide +kernel
def f_X8_isBurner (x : Int32) (ω : Mem) : Int32 := (f_X8_in x 0 3 ω)
set_option maxRecDepth 100000 in
set_option maxHeartbeats 4000000 in
theorem c_X8_isBurner {l_ : Launch} {sa : Nat → Nat} {D : va_G} {X : Nat → ClassId} {ad : Nat → Nat} (x : Int32) (ω : Mem)  : CT l_ yX8_isBurner wsX8_isBurner rm_X8_isBurner sa D (tyX X) 128 ad (mk X ad ω) [.int x] (some (.int (f_X8_isBurner x ω)) : Option Value) (mk X ad ω) := by
  refine ct_of [(0, .int x)] (by decide +kernel) rfl rfl (Nat.le_of_ble_eq_true rfl) rfl ?_
  intro p_ e_ s_ m_ args_ below_ meth_ c_ C hret hlk hin
  have e1 : (some (.int (f_X8_isBurner x ω)) : Option Value) = (some (.int (f_X8_isBurner x ω)) : Option Value) := rfl
  have e2 : mk X ad ω = mk X ad ω := rfl
  refine g_iload_n C dX8_isBurner_0 rfl 0 rfl ?_
  refine g_iconst (v := 0) C dX8_isBurner_1 (by decide) ?_
  refine g_iconst (v := 3) C dX8_isBurner_2 (by decide) ?_
  refine g_callS (rest := []) (st1 := [.int (f_X8_in x 0 3 ω)]) C (c_X8_in x 0 3 ω) (va_cwS 3 C.hts gX8_isBurner_X8_in rfl rfl rfl md_X8_in.2 ⟨Nat.le_of_ble_eq_true rfl, Nat.le_of_ble_eq_true rfl⟩) rfl rfl rfl (Nat.le_of_ble_eq_true rfl) dX8_isBurner_3 (Nat.zero_le _) (Nat.zero_le _) ?_
  exact g_zret C hret hlk (nar_b (z_X8_in ..)).1 (e1.trans (congrArg (fun z => some (Value.int z)) rfl)) e2 dX8_isBurner_6
theorem z_X8_isBurner {x : Int32} {ω : Mem} : bb (f_X8_isBurner x ω) = f_X8_isBurner x ω := by
  unfold f_X8_isBurner
  repeat' split
  all_goals first | with_reducible exact z_X8_in | with_reducible exact bb_bb _ | decide
abbrev rm_X8_get : Room := { frames := 0, cells := 0, slots := 0, locals := 0 }
theorem md_X8_get : yX8_get.cls = RX8 ∧ yX8_get.cls ≠ "java/lang/invoke/MethodHandle" ∧ yX8_get.cls ≠ "java/lang/invoke/VarHandle" ∧ (parseMethodDescriptor yX8_get.desc).map (fun d => d.parameters.length) = some 2 := by decide +kernel
def f_X8_get (k : Nat) (w : Nat) (ω : Mem) : Int32 := (ω 121 (68 + 10 * k + w))
set_option maxRecDepth 100000 in
set_option maxHeartbeats 4000000 in
theorem c_X8_get {l_ : Launch} {sa : Nat → Nat} {D : va_G} {X : Nat → ClassId} {ad : Nat → Nat} (k : Nat) (w : Nat) (hk : k < 4) (hw : w < 10) (ω : Mem)  : CT l_ yX8_get wsX8_get rm_X8_get sa D (tyX X) 128 ad (mk X ad ω) [.ref (ad 120), .int (nI (k)), .int (nI (w))] (some (.int (f_X8_get k w ω)) : Option Value) (mk X ad ω) := by
  refine ct_of [(0, .ref (ad 120)), (1, .int (nI (k))), (2, .int (nI (w)))] (by decide +kernel) rfl rfl (Nat.le_of_ble_eq_true rfl) rfl ?_
  intro p_ e_ s_ m_ args_ below_ meth_ c_ C hret hlk hin
  have e1 : (some (.int (f_X8_get k w ω)) : Option Value) = (some (.int (f_X8_get k w ω)) : Option Value) := rfl
  have e2 : mk X ad ω = mk X ad ω := rfl
  have iX8 : ∀ w ∈ u_ws RX8 TX8 14, w ∈ wsX8_get := by decide +kernel
  have L7 : Cond.fieldLink RX8 7 (TX8 1).1 (TX8 1).2.1 (TX8 1).2.2.1 ∈ wsX8_get := by decide +kernel
  refine g_aload_n C dX8_get_0 rfl 0 rfl ?_
  refine g_get (v := .ref (ad 121)) C iX8 (by decide) (mk_11 (by decide)) rfl 1 (by decide) L7 rfl dX8_get_1 ?_
  refine g_bipush (v := 68) C dX8_get_4 (by decide) ?_
  refine g_bipush (v := 10) C dX8_get_6 (by decide) ?_
  refine g_iload_n C dX8_get_8 rfl 1 rfl ?_
  refine g_imul (v := (nI (10 * k))) C dX8_get_9 (pk_mul (10) (k)) ?_
  refine g_iadd (v := (nI (68 + 10 * k))) C dX8_get_10 (nI_add (68) (10 * k)) ?_
  refine g_iload_n C dX8_get_11 rfl 2 rfl ?_
  refine g_iadd (v := (nI (68 + 10 * k + w))) C dX8_get_12 (nI_add (68 + 10 * k) (w)) ?_
  refine g_iald (k := 68 + 10 * k + w) C 0 (by decide) (mk_12n (N := 108) (by decide) (by decide)) rfl (vp_in_nI (n := 68 + 10 * k + w) (by omega) (by decide)) (nI_clamp (n := 68 + 10 * k + w) (by omega)) dX8_get_13 ?_
  exact g_iret C hret hlk (e1.trans (congrArg (fun z => some (Value.int z)) rfl)) e2 dX8_get_14
abbrev rm_X8_lay : Room := { frames := 0, cells := 0, slots := 0, locals := 0 }
theorem md_X8_lay : yX8_lay.cls = RX8 ∧ yX8_lay.cls ≠ "java/lang/invoke/MethodHandle" ∧ yX8_lay.cls ≠ "java/lang/invoke/VarHandle" ∧ (parseMethodDescriptor yX8_lay.desc).map (fun d => d.parameters.length) = some 3 := by decide +kernel
def f_X8_lay (k : Nat) (w : Nat) (v : Int32) (ω : Mem) : Mem := (st ω 121 (68 + 10 * k + w) v)
theorem mi_X8_lay (k : Nat) (w : Nat) (v : Int32) (hk : k < 4) (hw : w < 10) (ω : Mem) (hmi : MIn 10 ω) : MIn 10 (f_X8_lay k w v ω) := by
  unfold f_X8_lay
  have hz1 := hmi.1.2; have hz2 := hmi.2.1.2; have hz3 := hmi.2.2.2
  exact (MIn_s hmi (by omega) (by omega))
set_option maxRecDepth 100000 in
set_option maxHeartbeats 4000000 in
theorem c_X8_lay {l_ : Launch} {sa : Nat → Nat} {D : va_G} {X : Nat → ClassId} {ad : Nat → Nat} (k : Nat) (w : Nat) (v : Int32) (hk : k < 4) (hw : w < 10) (ω : Mem) (hmi : MIn 10 ω) : CT l_ yX8_lay wsX8_lay rm_X8_lay sa D (tyX X) 128 ad (mk X ad ω) [.ref (ad 120), .int (nI (k)), .int (nI (w)), .int v] (none : Option Value) (mk X ad (f_X8_lay k w v ω)) := by
  refine ct_of [(0, .ref (ad 120)), (1, .int (nI (k))), (2, .int (nI (w))), (3, .int v)] (by decide +kernel) rfl rfl (Nat.le_of_ble_eq_true rfl) rfl ?_
  intro p_ e_ s_ m_ args_ below_ meth_ c_ C hret hlk hin
  have e1 : (none : Option Value) = (none : Option Value) := rfl
  have e2 : mk X ad (f_X8_lay k w v ω) = mk X ad (f_X8_lay k w v ω) := rfl
  have iX8 : ∀ w ∈ u_ws RX8 TX8 14, w ∈ wsX8_lay := by decide +kernel
  have L7 : Cond.fieldLink RX8 7 (TX8 1).1 (TX8 1).2.1 (TX8 1).2.2.1 ∈ wsX8_lay := by decide +kernel
  refine g_aload_n C dX8_lay_0 rfl 0 rfl ?_
  refine g_get (v := .ref (ad 121)) C iX8 (by decide) (mk_11 (by decide)) rfl 1 (by decide) L7 rfl dX8_lay_1 ?_
  refine g_bipush (v := 68) C dX8_lay_4 (by decide) ?_
  refine g_bipush (v := 10) C dX8_lay_6 (by decide) ?_
  refine g_iload_n C dX8_lay_8 rfl 1 rfl ?_
  refine g_imul (v := (nI (10 * k))) C dX8_lay_9 (pk_mul (10) (k)) ?_
  refine g_iadd (v := (nI (68 + 10 * k))) C dX8_lay_10 (nI_add (68) (10 * k)) ?_
  refine g_iload_n C dX8_lay_11 rfl 2 rfl ?_
  refine g_iadd (v := (nI (68 + 10 * k + w))) C dX8_lay_12 (nI_add (68 + 10 * k) (w)) ?_
  refine g_iload_n C dX8_lay_13 rfl 3 rfl ?_
  refine g_iast (k := 68 + 10 * k + w) C 0 (by decide) (mk_12n (N := 108) (by decide) (by decide)) rfl (vp_in_nI (n := 68 + 10 * k + w) (by omega) (by decide)) (nI_clamp (n := 68 + 10 * k + w) (by omega)) dX8_lay_14 ?_
  refine gv_eqG (mk_row (N := 108) (by decide) (by decide)) ?_
  exact g_vret C hret hlk e1 (e2.trans (congrArg (mk X ad) rfl)) dX8_lay_15
abbrev rm_X8_choose : Room := { frames := 0, cells := 0, slots := 0, locals := 0 }
theorem md_X8_choose : yX8_choose.cls = RX8 ∧ yX8_choose.cls ≠ "java/lang/invoke/MethodHandle" ∧ yX8_choose.cls ≠ "java/lang/invoke/VarHandle" ∧ (parseMethodDescriptor yX8_choose.desc).map (fun d => d.parameters.length) = some 4 := by decide +kernel
def f_X8_choose (k : Int32) (a : Int32) (b : Int32) (c : Int32) (ω : Mem) : Int32 := (if k = 0 then a else (if k = 1 then b else c))
set_option maxRecDepth 100000 in
set_option maxHeartbeats 4000000 in
theorem c_X8_choose {l_ : Launch} {sa : Nat → Nat} {D : va_G} {X : Nat → ClassId} {ad : Nat → Nat} (k : Int32) (a : Int32) (b : Int32) (c : Int32) (ω : Mem)  : CT l_ yX8_choose wsX8_choose rm_X8_choose sa D (tyX X) 128 ad (mk X ad ω) [.int k, .int a, .int b, .int c] (some (.int (f_X8_choose k a b c ω)) : Option Value) (mk X ad ω) := by
  refine ct_of [(0, .int k), (1, .int a), (2, .int b), (3, .int c)] (by decide +kernel) rfl rfl (Nat.le_of_ble_eq_true rfl) rfl ?_
  intro p_ e_ s_ m_ args_ below_ meth_ c_ C hret hlk hin
  have e1 : (some (.int (f_X8_choose k a b c ω)) : Option Value) = (some (.int (f_X8_choose k a b c ω)) : Option Value) := rfl
  have e2 : mk X ad ω = mk X ad ω := rfl
  refine g_iload_n C dX8_choose_0 rfl 0 rfl ?_
  refine g_if_ne (tgt := 8) C dX8_choose_1 (by decide) (fun h1 => ?_) (fun h1 => ?_)
  · refine g_iload_n C dX8_choose_8 rfl 0 rfl ?_
    refine g_iconst (v := 1) C dX8_choose_9 (by decide) ?_
    refine g_icmp_ne (tgt := 17) C dX8_choose_10 (by decide) (fun h2 => ?_) (fun h2 => ?_)
    · refine g_iload_n C dX8_choose_17 rfl 3 rfl ?_
      exact g_iret C hret hlk (e1.trans (congrArg (fun z => some (Value.int z)) ((if_neg h1).trans ((if_neg h2).trans rfl)))) e2 dX8_choose_18
    · refine g_iload_n C dX8_choose_13 rfl 2 rfl ?_
      refine g_goto (tgt := 18) C dX8_choose_14 (by decide) ?_
      exact g_iret C hret hlk (e1.trans (congrArg (fun z => some (Value.int z)) ((if_neg h1).trans ((if_pos h2).trans rfl)))) e2 dX8_choose_18
  · refine g_iload_n C dX8_choose_4 rfl 1 rfl ?_
    refine g_goto (tgt := 18) C dX8_choose_5 (by decide) ?_
    exact g_iret C hret hlk (e1.trans (congrArg (fun z => some (Value.int z)) ((if_pos h1).trans rfl))) e2 dX8_choose_18
theorem choose_ne1 {k : Int32} {ω : Mem} : ¬ f_X8_choose k 10 14 20 ω = 0 := by
  unfold f_X8_choose
  repeat' split
  all_goals decide
theorem choose_ne2 {k : Int32} {ω : Mem} : ¬ f_X8_choose k 8 6 10 ω = 0 := by
  unfold f_X8_choose
  repeat' split
  all_goals decide
abbrev rm_X8_flow : Room := { frames := 1, cells := 0, slots := 0, locals := 23 }
theorem md_X8_flow : yX8_flow.cls = RX8 ∧ yX8_flow.cls ≠ "java/lang/invoke/MethodHandle" ∧ yX8_flow.cls ≠ "java/lang/invoke/VarHandle" ∧ (parseMethodDescriptor yX8_flow.desc).map (fun d => d.parameters.length) = some 2 := by decide +kernel
def f_X8_flow (k : Int32) (t : Int32) (ω : Mem) : Int32 := (if t = 1 then (f_X8_choose k 2 4 6 ω) else (f_X8_choose k 4 9 14 ω))
set_option maxRecDepth 100000 in
set_option maxHeartbeats 4000000 in
theorem c_X8_flow {l_ : Launch} {sa : Nat → Nat} {D : va_G} {X : Nat → ClassId} {ad : Nat → Nat} (k : Int32) (t : Int32) (ω : Mem)  : CT l_ yX8_flow wsX8_flow rm_X8_flow sa D (tyX X) 128 ad (mk X ad ω) [.int k, .int t] (some (.int (f_X8_flow k t ω)) : Option Value) (mk X ad ω) := by
  refine ct_of [(0, .int k), (1, .int t)] (by decide +kernel) rfl rfl (Nat.le_of_ble_eq_true rfl) rfl ?_
  intro p_ e_ s_ m_ args_ below_ meth_ c_ C hret hlk hin
  have e1 : (some (.int (f_X8_flow k t ω)) : Option Value) = (some (.int (f_X8_flow k t ω)) : Option Value) := rfl
  have e2 : mk X ad ω = mk X ad ω := rfl
  refine g_iload_n C dX8_flow_0 rfl 1 rfl ?_
  refine g_iconst (v := 1) C dX8_flow_1 (by decide) ?_
  refine g_icmp_ne (tgt := 16) C dX8_flow_2 (by decide) (fun h1 => ?_) (fun h1 => ?_)
  · refine g_iload_n C dX8_flow_16 rfl 0 rfl ?_
    refine g_iconst (v := 4) C dX8_flow_17 (by decide) ?_
    refine g_bipush (v := 9) C dX8_flow_18 (by decide) ?_
    refine g_bipush (v := 14) C dX8_flow_20 (by decide) ?_
    refine g_callS (rest := []) (st1 := [.int (f_X8_choose k 4 9 14 ω)]) C (c_X8_choose k 4 9 14 ω) (va_cwS 4 C.hts gX8_flow_X8_choose rfl rfl rfl md_X8_choose.2 ⟨Nat.le_of_ble_eq_true rfl, Nat.le_of_ble_eq_true rfl⟩) rfl rfl rfl (Nat.le_of_ble_eq_true rfl) dX8_flow_22 (Nat.zero_le _) (Nat.zero_le _) ?_
    exact g_iret C hret hlk (e1.trans (congrArg (fun z => some (Value.int z)) ((if_neg h1).trans rfl))) e2 dX8_flow_25
  · refine g_iload_n C dX8_flow_5 rfl 0 rfl ?_
    refine g_iconst (v := 2) C dX8_flow_6 (by decide) ?_
    refine g_iconst (v := 4) C dX8_flow_7 (by decide) ?_
    refine g_bipush (v := 6) C dX8_flow_8 (by decide) ?_
    refine g_callS (rest := []) (st1 := [.int (f_X8_choose k 2 4 6 ω)]) C (c_X8_choose k 2 4 6 ω) (va_cwS 4 C.hts gX8_flow_X8_choose rfl rfl rfl md_X8_choose.2 ⟨Nat.le_of_ble_eq_true rfl, Nat.le_of_ble_eq_true rfl⟩) rfl rfl rfl (Nat.le_of_ble_eq_true rfl) dX8_flow_10 (Nat.zero_le _) (Nat.zero_le _) ?_
    refine g_goto (tgt := 25) C dX8_flow_13 (by decide) ?_
    exact g_iret C hret hlk (e1.trans (congrArg (fun z => some (Value.int z)) ((if_pos h1).trans rfl))) e2 dX8_flow_25
abbrev rm_X8_heat : Room := { frames := 1, cells := 0, slots := 0, locals := 23 }
theorem md_X8_heat : yX8_heat.cls = RX8 ∧ yX8_heat.cls ≠ "java/lang/invoke/MethodHandle" ∧ yX8_heat.cls ≠ "java/lang/invoke/VarHandle" ∧ (parseMethodDescriptor yX8_heat.desc).map (fun d => d.parameters.length) = some 2 := by decide +kernel
def f_X8_heat (k : Int32) (t : Int32) (ω : Mem) : Int32 := (if t = 1 then (f_X8_choose k 500 600 550 ω) else (f_X8_choose k 700 850 900 ω))
set_option maxRecDepth 100000 in
set_option maxHeartbeats 4000000 in
theorem c_X8_heat {l_ : Launch} {sa : Nat → Nat} {D : va_G} {X : Nat → ClassId} {ad : Nat → Nat} (k : Int32) (t : Int32) (ω : Mem)  : CT l_ yX8_heat wsX8_heat rm_X8_heat sa D (tyX X) 128 ad (mk X ad ω) [.int k, .int t] (some (.int (f_X8_heat k t ω)) : Option Value) (mk X ad ω) := by
  refine ct_of [(0, .int k), (1, .int t)] (by decide +kernel) rfl rfl (Nat.le_of_ble_eq_true rfl) rfl ?_
  intro p_ e_ s_ m_ args_ below_ meth_ c_ C hret hlk hin
  have e1 : (some (.int (f_X8_heat k t ω)) : Option Value) = (some (.int (f_X8_heat k t ω)) : Option Value) := rfl
  have e2 : mk X ad ω = mk X ad ω := rfl
  refine g_iload_n C dX8_heat_0 rfl 1 rfl ?_
  refine g_iconst (v := 1) C dX8_heat_1 (by decide) ?_
  refine g_icmp_ne (tgt := 21) C dX8_heat_2 (by decide) (fun h1 => ?_) (fun h1 => ?_)
  · refine g_iload_n C dX8_heat_21 rfl 0 rfl ?_
    refine g_sipush (v := 700) C dX8_heat_22 (by decide) ?_
    refine g_sipush (v := 850) C dX8_heat_25 (by decide) ?_
    refine g_sipush (v := 900) C dX8_heat_28 (by decide) ?_
    refine g_callS (rest := []) (st1 := [.int (f_X8_choose k 700 850 900 ω)]) C (c_X8_choose k 700 850 900 ω) (va_cwS 4 C.hts gX8_heat_X8_choose rfl rfl rfl md_X8_choose.2 ⟨Nat.le_of_ble_eq_true rfl, Nat.le_of_ble_eq_true rfl⟩) rfl rfl rfl (Nat.le_of_ble_eq_true rfl) dX8_heat_31 (Nat.zero_le _) (Nat.zero_le _) ?_
    exact g_iret C hret hlk (e1.trans (congrArg (fun z => some (Value.int z)) ((if_neg h1).trans rfl))) e2 dX8_heat_34
  · refine g_iload_n C dX8_heat_5 rfl 0 rfl ?_
    refine g_sipush (v := 500) C dX8_heat_6 (by decide) ?_
    refine g_sipush (v := 600) C dX8_heat_9 (by decide) ?_
    refine g_sipush (v := 550) C dX8_heat_12 (by decide) ?_
    refine g_callS (rest := []) (st1 := [.int (f_X8_choose k 500 600 550 ω)]) C (c_X8_choose k 500 600 550 ω) (va_cwS 4 C.hts gX8_heat_X8_choose rfl rfl rfl md_X8_choose.2 ⟨Nat.le_of_ble_eq_true rfl, Nat.le_of_ble_eq_true rfl⟩) rfl rfl rfl (Nat.le_of_ble_eq_true rfl) dX8_heat_15 (Nat.zero_le _) (Nat.zero_le _) ?_
    refine g_goto (tgt := 34) C dX8_heat_18 (by decide) ?_
    exact g_iret C hret hlk (e1.trans (congrArg (fun z => some (Value.int z)) ((if_pos h1).trans rfl))) e2 dX8_heat_34
abbrev rm_X8_strengthOf : Room := { frames := 1, cells := 0, slots := 0, locals := 23 }
theorem md_X8_strengthOf : yX8_strengthOf.cls = RX8 ∧ yX8_strengthOf.cls ≠ "java/lang/invoke/MethodHandle" ∧ yX8_strengthOf.cls ≠ "java/lang/invoke/VarHandle" ∧ (parseMethodDescriptor yX8_strengthOf.desc).map (fun d => d.parameters.length) = some 2 := by decide +kernel
def f_X8_strengthOf (k : Int32) (t : Int32) (ω : Mem) : Int32 := (if t = 0 then 0 else (if t = 1 then (f_X8_choose k 2 3 1 ω) else (f_X8_choose k 4 6 5 ω)))
set_option maxRecDepth 100000 in
set_option maxHeartbeats 4000000 in
theorem c_X8_strengthOf {l_ : Launch} {sa : Nat → Nat} {D : va_G} {X : Nat → ClassId} {ad : Nat → Nat} (k : Int32) (t : Int32) (ω : Mem)  : CT l_ yX8_strengthOf wsX8_strengthOf rm_X8_strengthOf sa D (tyX X) 128 ad (mk X ad ω) [.int k, .int t] (some (.int (f_X8_strengthOf k t ω)) : Option Value) (mk X ad ω) := by
  refine ct_of [(0, .int k), (1, .int t)] (by decide +kernel) rfl rfl (Nat.le_of_ble_eq_true rfl) rfl ?_
  intro p_ e_ s_ m_ args_ below_ meth_ c_ C hret hlk hin
  have e1 : (some (.int (f_X8_strengthOf k t ω)) : Option Value) = (some (.int (f_X8_strengthOf k t ω)) : Option Value) := rfl
  have e2 : mk X ad ω = mk X ad ω := rfl
  refine g_iload_n C dX8_strengthOf_0 rfl 1 rfl ?_
  refine g_if_ne (tgt := 8) C dX8_strengthOf_1 (by decide) (fun h1 => ?_) (fun h1 => ?_)
  · refine g_iload_n C dX8_strengthOf_8 rfl 1 rfl ?_
    refine g_iconst (v := 1) C dX8_strengthOf_9 (by decide) ?_
    refine g_icmp_ne (tgt := 23) C dX8_strengthOf_10 (by decide) (fun h2 => ?_) (fun h2 => ?_)
    · refine g_iload_n C dX8_strengthOf_23 rfl 0 rfl ?_
      refine g_iconst (v := 4) C dX8_strengthOf_24 (by decide) ?_
      refine g_bipush (v := 6) C dX8_strengthOf_25 (by decide) ?_
      refine g_iconst (v := 5) C dX8_strengthOf_27 (by decide) ?_
      refine g_callS (rest := []) (st1 := [.int (f_X8_choose k 4 6 5 ω)]) C (c_X8_choose k 4 6 5 ω) (va_cwS 4 C.hts gX8_strengthOf_X8_choose rfl rfl rfl md_X8_choose.2 ⟨Nat.le_of_ble_eq_true rfl, Nat.le_of_ble_eq_true rfl⟩) rfl rfl rfl (Nat.le_of_ble_eq_true rfl) dX8_strengthOf_28 (Nat.zero_le _) (Nat.zero_le _) ?_
      exact g_iret C hret hlk (e1.trans (congrArg (fun z => some (Value.int z)) ((if_neg h1).trans ((if_neg h2).trans rfl)))) e2 dX8_strengthOf_31
    · refine g_iload_n C dX8_strengthOf_13 rfl 0 rfl ?_
      refine g_iconst (v := 2) C dX8_strengthOf_14 (by decide) ?_
      refine g_iconst (v := 3) C dX8_strengthOf_15 (by decide) ?_
      refine g_iconst (v := 1) C dX8_strengthOf_16 (by decide) ?_
      refine g_callS (rest := []) (st1 := [.int (f_X8_choose k 2 3 1 ω)]) C (c_X8_choose k 2 3 1 ω) (va_cwS 4 C.hts gX8_strengthOf_X8_choose rfl rfl rfl md_X8_choose.2 ⟨Nat.le_of_ble_eq_true rfl, Nat.le_of_ble_eq_true rfl⟩) rfl rfl rfl (Nat.le_of_ble_eq_true rfl) dX8_strengthOf_17 (Nat.zero_le _) (Nat.zero_le _) ?_
      refine g_goto (tgt := 31) C dX8_strengthOf_20 (by decide) ?_
      exact g_iret C hret hlk (e1.trans (congrArg (fun z => some (Value.int z)) ((if_neg h1).trans ((if_pos h2).trans rfl)))) e2 dX8_strengthOf_31
  · refine g_iconst (v := 0) C dX8_strengthOf_4 (by decide) ?_
    refine g_goto (tgt := 31) C dX8_strengthOf_5 (by decide) ?_
    exact g_iret C hret hlk (e1.trans (congrArg (fun z => some (Value.int z)) ((if_pos h1).trans rfl))) e2 dX8_strengthOf_31
abbrev rm_X8_cooled : Room := { frames := 1, cells := 0, slots := 0, locals := 23 }
theorem md_X8_cooled : yX8_cooled.cls = RX8 ∧ yX8_cooled.cls ≠ "java/lang/invoke/MethodHandle" ∧ yX8_cooled.cls ≠ "java/lang/invoke/VarHandle" ∧ (parseMethodDescriptor yX8_cooled.desc).map (fun d => d.parameters.length) = some 3 := by decide +kernel
def f_X8_cooled (k : Int32) (t : Int32) (g : Int32) (ω : Mem) : Int32 := (if g ≤ ((t - (t / (f_X8_choose k 10 14 20 ω))) - 1) then ((t - (t / (f_X8_choose k 10 14 20 ω))) - 1) else g)
set_option maxRecDepth 100000 in
set_option maxHeartbeats 4000000 in
theorem c_X8_cooled {l_ : Launch} {sa : Nat → Nat} {D : va_G} {X : Nat → ClassId} {ad : Nat → Nat} (k : Int32) (t : Int32) (g : Int32) (ω : Mem)  : CT l_ yX8_cooled wsX8_cooled rm_X8_cooled sa D (tyX X) 128 ad (mk X ad ω) [.int k, .int t, .int g] (some (.int (f_X8_cooled k t g ω)) : Option Value) (mk X ad ω) := by
  refine ct_of [(0, .int k), (1, .int t), (2, .int g)] (by decide +kernel) rfl rfl (Nat.le_of_ble_eq_true rfl) rfl ?_
  intro p_ e_ s_ m_ args_ below_ meth_ c_ C hret hlk hin
  have e1 : (some (.int (f_X8_cooled k t g ω)) : Option Value) = (some (.int (f_X8_cooled k t g ω)) : Option Value) := rfl
  have e2 : mk X ad ω = mk X ad ω := rfl
  refine g_iload_n C dX8_cooled_0 rfl 1 rfl ?_
  refine g_iload_n C dX8_cooled_1 rfl 1 rfl ?_
  refine g_iload_n C dX8_cooled_2 rfl 0 rfl ?_
  refine g_bipush (v := 10) C dX8_cooled_3 (by decide) ?_
  refine g_bipush (v := 14) C dX8_cooled_5 (by decide) ?_
  refine g_bipush (v := 20) C dX8_cooled_7 (by decide) ?_
  refine g_callS (rest := [.int t, .int t]) (st1 := [.int (f_X8_choose k 10 14 20 ω), .int t, .int t]) C (c_X8_choose k 10 14 20 ω) (va_cwS 4 C.hts gX8_cooled_X8_choose rfl rfl rfl md_X8_choose.2 ⟨Nat.le_of_ble_eq_true rfl, Nat.le_of_ble_eq_true rfl⟩) rfl rfl rfl (Nat.le_of_ble_eq_true rfl) dX8_cooled_9 (Nat.zero_le _) (Nat.zero_le _) ?_
  refine g_idiv C dX8_cooled_12 choose_ne1 ?_
  refine g_isub (v := (t - (t / (f_X8_choose k 10 14 20 ω)))) C dX8_cooled_13 rfl ?_
  refine g_iconst (v := 1) C dX8_cooled_14 (by decide) ?_
  refine g_isub (v := ((t - (t / (f_X8_choose k 10 14 20 ω))) - 1)) C dX8_cooled_15 rfl ?_
  refine g_istore_n (lv' := [(3, .int ((t - (t / (f_X8_choose k 10 14 20 ω))) - 1)), (0, .int k), (1, .int t), (2, .int g)]) C dX8_cooled_16 rfl (by decide) rfl ?_
  refine g_iload_n C dX8_cooled_17 rfl 0 rfl ?_
  refine g_iload_n C dX8_cooled_18 rfl 3 rfl ?_
  refine g_icmp_ge (tgt := 26) C dX8_cooled_19 (by decide) (fun h1 => ?_) (fun h1 => ?_)
  · refine g_iload_n C dX8_cooled_26 rfl 0 rfl ?_
    exact g_iret C hret hlk (e1.trans (congrArg (fun z => some (Value.int z)) ((if_pos h1).trans rfl))) e2 dX8_cooled_27
  · refine g_iload_n C dX8_cooled_22 rfl 3 rfl ?_
    refine g_goto (tgt := 27) C dX8_cooled_23 (by decide) ?_
    exact g_iret C hret hlk (e1.trans (congrArg (fun z => some (Value.int z)) ((if_neg h1).trans rfl))) e2 dX8_cooled_27
abbrev rm_X8_warmed : Room := { frames := 1, cells := 0, slots := 0, locals := 23 }
theorem md_X8_warmed : yX8_warmed.cls = RX8 ∧ yX8_warmed.cls ≠ "java/lang/invoke/MethodHandle" ∧ yX8_warmed.cls ≠ "java/lang/invoke/VarHandle" ∧ (parseMethodDescriptor yX8_warmed.desc).map (fun d => d.parameters.length) = some 3 := by decide +kernel
def f_X8_warmed (k : Int32) (t : Int32) (g : Int32) (ω : Mem) : Int32 := (if ((t + ((g - t) / (f_X8_choose k 8 6 10 ω))) + 1) ≤ g then ((t + ((g - t) / (f_X8_choose k 8 6 10 ω))) + 1) else g)
set_option maxRecDepth 100000 in
set_option maxHeartbeats 4000000 in
theorem c_X8_warmed {l_ : Launch} {sa : Nat → Nat} {D : va_G} {X : Nat → ClassId} {ad : Nat → Nat} (k : Int32) (t : Int32) (g : Int32) (ω : Mem)  : CT l_ yX8_warmed wsX8_warmed rm_X8_warmed sa D (tyX X) 128 ad (mk X ad ω) [.int k, .int t, .int g] (some (.int (f_X8_warmed k t g ω)) : Option Value) (mk X ad ω) := by
  refine ct_of [(0, .int k), (1, .int t), (2, .int g)] (by decide +kernel) rfl rfl (Nat.le_of_ble_eq_true rfl) rfl ?_
  intro p_ e_ s_ m_ args_ below_ meth_ c_ C hret hlk hin
  have e1 : (some (.int (f_X8_warmed k t g ω)) : Option Value) = (some (.int (f_X8_warmed k t g ω)) : Option Value) := rfl
  have e2 : mk X ad ω = mk X ad ω := rfl
  refine g_iload_n C dX8_warmed_0 rfl 1 rfl ?_
  refine g_iload_n C dX8_warmed_1 rfl 2 rfl ?_
  refine g_iload_n C dX8_warmed_2 rfl 1 rfl ?_
  refine g_isub (v := (g - t)) C dX8_warmed_3 rfl ?_
  refine g_iload_n C dX8_warmed_4 rfl 0 rfl ?_
  refine g_bipush (v := 8) C dX8_warmed_5 (by decide) ?_
  refine g_bipush (v := 6) C dX8_warmed_7 (by decide) ?_
  refine g_bipush (v := 10) C dX8_warmed_9 (by decide) ?_
  refine g_callS (rest := [.int (g - t), .int t]) (st1 := [.int (f_X8_choose k 8 6 10 ω), .int (g - t), .int t]) C (c_X8_choose k 8 6 10 ω) (va_cwS 4 C.hts gX8_warmed_X8_choose rfl rfl rfl md_X8_choose.2 ⟨Nat.le_of_ble_eq_true rfl, Nat.le_of_ble_eq_true rfl⟩) rfl rfl rfl (Nat.le_of_ble_eq_true rfl) dX8_warmed_11 (Nat.zero_le _) (Nat.zero_le _) ?_
  refine g_idiv C dX8_warmed_14 choose_ne2 ?_
  refine g_iadd (v := (t + ((g - t) / (f_X8_choose k 8 6 10 ω)))) C dX8_warmed_15 rfl ?_
  refine g_iconst (v := 1) C dX8_warmed_16 (by decide) ?_
  refine g_iadd (v := ((t + ((g - t) / (f_X8_choose k 8 6 10 ω))) + 1)) C dX8_warmed_17 rfl ?_
  refine g_istore_n (lv' := [(3, .int ((t + ((g - t) / (f_X8_choose k 8 6 10 ω))) + 1)), (0, .int k), (1, .int t), (2, .int g)]) C dX8_warmed_18 rfl (by decide) rfl ?_
  refine g_iload_n C dX8_warmed_19 rfl 0 rfl ?_
  refine g_iload_n C dX8_warmed_20 rfl 3 rfl ?_
  refine g_icmp_le (tgt := 28) C dX8_warmed_21 (by decide) (fun h1 => ?_) (fun h1 => ?_)
  · refine g_iload_n C dX8_warmed_28 rfl 0 rfl ?_
    exact g_iret C hret hlk (e1.trans (congrArg (fun z => some (Value.int z)) ((if_pos h1).trans rfl))) e2 dX8_warmed_29
  · refine g_iload_n C dX8_warmed_24 rfl 3 rfl ?_
    refine g_goto (tgt := 29) C dX8_warmed_25 (by decide) ?_
    exact g_iret C hret hlk (e1.trans (congrArg (fun z => some (Value.int z)) ((if_neg h1).trans rfl))) e2 dX8_warmed_29
abbrev rm_X8_byFlame : Room := { frames := 2, cells := 0, slots := 0, locals := 46 }
theorem md_X8_byFlame : yX8_byFlame.cls = RX8 ∧ yX8_byFlame.cls ≠ "java/lang/invoke/MethodHandle" ∧ yX8_byFlame.cls ≠ "java/lang/invoke/VarHandle" ∧ (parseMethodDescriptor yX8_byFlame.desc).map (fun d => d.parameters.length) = some 3 := by decide +kernel
def f_X8_byFlame (k : Int32) (t : Int32) (g : Int32) (ω : Mem) : Int32 := (if g ≤ t then (if t ≤ g then t else (f_X8_cooled k t g ω)) else (f_X8_warmed k t g ω))
set_option maxRecDepth 100000 in
set_option maxHeartbeats 4000000 in
theorem c_X8_byFlame {l_ : Launch} {sa : Nat → Nat} {D : va_G} {X : Nat → ClassId} {ad : Nat → Nat} (k : Int32) (t : Int32) (g : Int32) (ω : Mem)  : CT l_ yX8_byFlame wsX8_byFlame rm_X8_byFlame sa D (tyX X) 128 ad (mk X ad ω) [.int k, .int t, .int g] (some (.int (f_X8_byFlame k t g ω)) : Option Value) (mk X ad ω) := by
  refine ct_of [(0, .int k), (1, .int t), (2, .int g)] (by decide +kernel) rfl rfl (Nat.le_of_ble_eq_true rfl) rfl ?_
  intro p_ e_ s_ m_ args_ below_ meth_ c_ C hret hlk hin
  have e1 : (some (.int (f_X8_byFlame k t g ω)) : Option Value) = (some (.int (f_X8_byFlame k t g ω)) : Option Value) := rfl
  have e2 : mk X ad ω = mk X ad ω := rfl
  refine g_iload_n C dX8_byFlame_0 rfl 1 rfl ?_
  refine g_iload_n C dX8_byFlame_1 rfl 2 rfl ?_
  refine g_icmp_ge (tgt := 14) C dX8_byFlame_2 (by decide) (fun h1 => ?_) (fun h1 => ?_)
  · refine g_iload_n C dX8_byFlame_14 rfl 1 rfl ?_
    refine g_iload_n C dX8_byFlame_15 rfl 2 rfl ?_
    refine g_icmp_le (tgt := 28) C dX8_byFlame_16 (by decide) (fun h2 => ?_) (fun h2 => ?_)
    · refine g_iload_n C dX8_byFlame_28 rfl 1 rfl ?_
      exact g_iret C hret hlk (e1.trans (congrArg (fun z => some (Value.int z)) ((if_pos h1).trans ((if_pos h2).trans rfl)))) e2 dX8_byFlame_29
    · refine g_iload_n C dX8_byFlame_19 rfl 0 rfl ?_
      refine g_iload_n C dX8_byFlame_20 rfl 1 rfl ?_
      refine g_iload_n C dX8_byFlame_21 rfl 2 rfl ?_
      refine g_callS (rest := []) (st1 := [.int (f_X8_cooled k t g ω)]) C (c_X8_cooled k t g ω) (va_cwS 3 C.hts gX8_byFlame_X8_cooled rfl rfl rfl md_X8_cooled.2 ⟨Nat.le_of_ble_eq_true rfl, Nat.le_of_ble_eq_true rfl⟩) rfl rfl rfl (Nat.le_of_ble_eq_true rfl) dX8_byFlame_22 (Nat.zero_le _) (Nat.zero_le _) ?_
      refine g_goto (tgt := 29) C dX8_byFlame_25 (by decide) ?_
      exact g_iret C hret hlk (e1.trans (congrArg (fun z => some (Value.int z)) ((if_pos h1).trans ((if_neg h2).trans rfl)))) e2 dX8_byFlame_29
  · refine g_iload_n C dX8_byFlame_5 rfl 0 rfl ?_
    refine g_iload_n C dX8_byFlame_6 rfl 1 rfl ?_
    refine g_iload_n C dX8_byFlame_7 rfl 2 rfl ?_
    refine g_callS (rest := []) (st1 := [.int (f_X8_warmed k t g ω)]) C (c_X8_warmed k t g ω) (va_cwS 3 C.hts gX8_byFlame_X8_warmed rfl rfl rfl md_X8_warmed.2 ⟨Nat.le_of_ble_eq_true rfl, Nat.le_of_ble_eq_true rfl⟩) rfl rfl rfl (Nat.le_of_ble_eq_true rfl) dX8_byFlame_8 (Nat.zero_le _) (Nat.zero_le _) ?_
    refine g_goto (tgt := 29) C dX8_byFlame_11 (by decide) ?_
    exact g_iret C hret hlk (e1.trans (congrArg (fun z => some (Value.int z)) ((if_neg h1).trans rfl))) e2 dX8_byFlame_29
abbrev rm_X8_strength : Room := { frames := 2, cells := 0, slots := 0, locals := 44 }
theorem md_X8_strength : yX8_strength.cls = RX8 ∧ yX8_strength.cls ≠ "java/lang/invoke/MethodHandle" ∧ yX8_strength.cls ≠ "java/lang/invoke/VarHandle" ∧ (parseMethodDescriptor yX8_strength.desc).map (fun d => d.parameters.length) = some 1 := by decide +kernel
def f_X8_strength (k : Nat) (ω : Mem) : Int32 := (f_X8_strengthOf (f_X8_get k 0 ω) (f_X8_get k 1 ω) ω)
set_option maxRecDepth 100000 in
set_option maxHeartbeats 4000000 in
theorem c_X8_strength {l_ : Launch} {sa : Nat → Nat} {D : va_G} {X : Nat → ClassId} {ad : Nat → Nat} (k : Nat) (hk : k < 4) (ω : Mem)  : CT l_ yX8_strength wsX8_strength rm_X8_strength sa D (tyX X) 128 ad (mk X ad ω) [.ref (ad 120), .int (nI (k))] (some (.int (f_X8_strength k ω)) : Option Value) (mk X ad ω) := by
  refine ct_of [(0, .ref (ad 120)), (1, .int (nI (k)))] (by decide +kernel) rfl rfl (Nat.le_of_ble_eq_true rfl) rfl ?_
  intro p_ e_ s_ m_ args_ below_ meth_ c_ C hret hlk hin
  have e1 : (some (.int (f_X8_strength k ω)) : Option Value) = (some (.int (f_X8_strength k ω)) : Option Value) := rfl
  have e2 : mk X ad ω = mk X ad ω := rfl
  refine g_aload_n C dX8_strength_0 rfl 0 rfl ?_
  refine g_iload_n C dX8_strength_1 rfl 1 rfl ?_
  refine g_iconst (v := 0) C dX8_strength_2 (by decide) ?_
  refine g_callV (rest := []) (st1 := [.int (f_X8_get k 0 ω)]) C (c_X8_get k 0 (by omega) (by omega) ω) (cwV 2 C.hts gX8_strength_X8_get rfl rfl rfl md_X8_get ⟨Nat.le_of_ble_eq_true rfl, Nat.le_of_ble_eq_true rfl⟩) (by decide) (mk_11 (by decide)) rfl rfl rfl rfl rfl (Nat.le_of_ble_eq_true rfl) dX8_strength_3 (Nat.zero_le _) (Nat.zero_le _) ?_
  refine g_aload_n C dX8_strength_6 rfl 0 rfl ?_
  refine g_iload_n C dX8_strength_7 rfl 1 rfl ?_
  refine g_iconst (v := 1) C dX8_strength_8 (by decide) ?_
  refine g_callV (rest := [.int (f_X8_get k 0 ω)]) (st1 := [.int (f_X8_get k 1 ω), .int (f_X8_get k 0 ω)]) C (c_X8_get k 1 (by omega) (by omega) ω) (cwV 2 C.hts gX8_strength_X8_get rfl rfl rfl md_X8_get ⟨Nat.le_of_ble_eq_true rfl, Nat.le_of_ble_eq_true rfl⟩) (by decide) (mk_11 (by decide)) rfl rfl rfl rfl rfl (Nat.le_of_ble_eq_true rfl) dX8_strength_9 (Nat.zero_le _) (Nat.zero_le _) ?_
  refine g_callS (rest := []) (st1 := [.int (f_X8_strengthOf (f_X8_get k 0 ω) (f_X8_get k 1 ω) ω)]) C (c_X8_strengthOf (f_X8_get k 0 ω) (f_X8_get k 1 ω) ω) (va_cwS 2 C.hts gX8_strength_X8_strengthOf rfl rfl rfl md_X8_strengthOf.2 ⟨Nat.le_of_ble_eq_true rfl, Nat.le_of_ble_eq_true rfl⟩) rfl rfl rfl (Nat.le_of_ble_eq_true rfl) dX8_strength_12 (Nat.zero_le _) (Nat.zero_le _) ?_
  exact g_iret C hret hlk (e1.trans (congrArg (fun z => some (Value.int z)) rfl)) e2 dX8_strength_15
abbrev rm_X8_isOpen : Room := { frames := 1, cells := 0, slots := 0, locals := 22 }
theorem md_X8_isOpen : yX8_isOpen.cls = RX8 ∧ yX8_isOpen.cls ≠ "java/lang/invoke/MethodHandle" ∧ yX8_isOpen.cls ≠ "java/lang/invoke/VarHandle" ∧ (parseMethodDescriptor yX8_isOpen.desc).map (fun d => d.parameters.length) = some 1 := by decide +kernel
def f_X8_isOpen (k : Nat) (ω : Mem) : Int32 := (if (f_X8_get k 6 ω) = 0 then (if (f_X8_get k 1 ω) ≤ 0 then 0 else (if (f_X8_get k 2 ω) = 1 then 1 else (if (f_X8_get k 5 ω) < (ω 121 0) then 0 else 1))) else 0)
set_option maxRecDepth 100000 in
set_option maxHeartbeats 4000000 in
theorem c_X8_isOpen {l_ : Launch} {sa : Nat → Nat} {D : va_G} {X : Nat → ClassId} {ad : Nat → Nat} (k : Nat) (hk : k < 4) (ω : Mem)  : CT l_ yX8_isOpen wsX8_isOpen rm_X8_isOpen sa D (tyX X) 128 ad (mk X ad ω) [.ref (ad 120), .int (nI (k))] (some (.int (f_X8_isOpen k ω)) : Option Value) (mk X ad ω) := by
  refine ct_of [(0, .ref (ad 120)), (1, .int (nI (k)))] (by decide +kernel) rfl rfl (Nat.le_of_ble_eq_true rfl) rfl ?_
  intro p_ e_ s_ m_ args_ below_ meth_ c_ C hret hlk hin
  have e1 : (some (.int (f_X8_isOpen k ω)) : Option Value) = (some (.int (f_X8_isOpen k ω)) : Option Value) := rfl
  have e2 : mk X ad ω = mk X ad ω := rfl
  have iX8 : ∀ w ∈ u_ws RX8 TX8 14, w ∈ wsX8_isOpen := by decide +kernel
  have L7 : Cond.fieldLink RX8 7 (TX8 1).1 (TX8 1).2.1 (TX8 1).2.2.1 ∈ wsX8_isOpen := by decide +kernel
  refine g_aload_n C dX8_isOpen_0 rfl 0 rfl ?_
  refine g_iload_n C dX8_isOpen_1 rfl 1 rfl ?_
  refine g_bipush (v := 6) C dX8_isOpen_2 (by decide) ?_
  refine g_callV (rest := []) (st1 := [.int (f_X8_get k 6 ω)]) C (c_X8_get k 6 (by omega) (by omega) ω) (cwV 2 C.hts gX8_isOpen_X8_get rfl rfl rfl md_X8_get ⟨Nat.le_of_ble_eq_true rfl, Nat.le_of_ble_eq_true rfl⟩) (by decide) (mk_11 (by decide)) rfl rfl rfl rfl rfl (Nat.le_of_ble_eq_true rfl) dX8_isOpen_4 (Nat.zero_le _) (Nat.zero_le _) ?_
  refine g_if_ne (tgt := 48) C dX8_isOpen_7 (by decide) (fun h1 => ?_) (fun h1 => ?_)
  · refine g_iconst (v := 0) C dX8_isOpen_48 (by decide) ?_
    exact g_zret C hret hlk (nar_b (by decide)).1 (e1.trans (congrArg (fun z => some (Value.int z)) ((if_neg h1).trans rfl))) e2 dX8_isOpen_49
  · refine g_aload_n C dX8_isOpen_10 rfl 0 rfl ?_
    refine g_iload_n C dX8_isOpen_11 rfl 1 rfl ?_
    refine g_iconst (v := 1) C dX8_isOpen_12 (by decide) ?_
    refine g_callV (rest := []) (st1 := [.int (f_X8_get k 1 ω)]) C (c_X8_get k 1 (by omega) (by omega) ω) (cwV 2 C.hts gX8_isOpen_X8_get rfl rfl rfl md_X8_get ⟨Nat.le_of_ble_eq_true rfl, Nat.le_of_ble_eq_true rfl⟩) (by decide) (mk_11 (by decide)) rfl rfl rfl rfl rfl (Nat.le_of_ble_eq_true rfl) dX8_isOpen_13 (Nat.zero_le _) (Nat.zero_le _) ?_
    refine g_if_le (tgt := 48) C dX8_isOpen_16 (by decide) (fun h2 => ?_) (fun h2 => ?_)
    · refine g_iconst (v := 0) C dX8_isOpen_48 (by decide) ?_
      exact g_zret C hret hlk (nar_b (by decide)).1 (e1.trans (congrArg (fun z => some (Value.int z)) ((if_pos h1).trans ((if_pos h2).trans rfl)))) e2 dX8_isOpen_49
    · refine g_aload_n C dX8_isOpen_19 rfl 0 rfl ?_
      refine g_iload_n C dX8_isOpen_20 rfl 1 rfl ?_
      refine g_iconst (v := 2) C dX8_isOpen_21 (by decide) ?_
      refine g_callV (rest := []) (st1 := [.int (f_X8_get k 2 ω)]) C (c_X8_get k 2 (by omega) (by omega) ω) (cwV 2 C.hts gX8_isOpen_X8_get rfl rfl rfl md_X8_get ⟨Nat.le_of_ble_eq_true rfl, Nat.le_of_ble_eq_true rfl⟩) (by decide) (mk_11 (by decide)) rfl rfl rfl rfl rfl (Nat.le_of_ble_eq_true rfl) dX8_isOpen_22 (Nat.zero_le _) (Nat.zero_le _) ?_
      refine g_iconst (v := 1) C dX8_isOpen_25 (by decide) ?_
      refine g_icmp_eq (tgt := 44) C dX8_isOpen_26 (by decide) (fun h3 => ?_) (fun h3 => ?_)
      · refine g_iconst (v := 1) C dX8_isOpen_44 (by decide) ?_
        refine g_goto (tgt := 49) C dX8_isOpen_45 (by decide) ?_
        exact g_zret C hret hlk (nar_b (by decide)).1 (e1.trans (congrArg (fun z => some (Value.int z)) ((if_pos h1).trans ((if_neg h2).trans ((if_pos h3).trans rfl))))) e2 dX8_isOpen_49
      · refine g_aload_n C dX8_isOpen_29 rfl 0 rfl ?_
        refine g_iload_n C dX8_isOpen_30 rfl 1 rfl ?_
        refine g_iconst (v := 5) C dX8_isOpen_31 (by decide) ?_
        refine g_callV (rest := []) (st1 := [.int (f_X8_get k 5 ω)]) C (c_X8_get k 5 (by omega) (by omega) ω) (cwV 2 C.hts gX8_isOpen_X8_get rfl rfl rfl md_X8_get ⟨Nat.le_of_ble_eq_true rfl, Nat.le_of_ble_eq_true rfl⟩) (by decide) (mk_11 (by decide)) rfl rfl rfl rfl rfl (Nat.le_of_ble_eq_true rfl) dX8_isOpen_32 (Nat.zero_le _) (Nat.zero_le _) ?_
        refine g_aload_n C dX8_isOpen_35 rfl 0 rfl ?_
        refine g_get (v := .ref (ad 121)) C iX8 (by decide) (mk_11 (by decide)) rfl 1 (by decide) L7 rfl dX8_isOpen_36 ?_
        refine g_iconst (v := 0) C dX8_isOpen_39 (by decide) ?_
        refine g_iald (k := 0) C 0 (by decide) (mk_12n (N := 108) (by decide) (by decide)) rfl (by unfold vp_in; decide) rfl dX8_isOpen_40 ?_
        refine g_icmp_lt (tgt := 48) C dX8_isOpen_41 (by decide) (fun h4 => ?_) (fun h4 => ?_)
        · refine g_iconst (v := 0) C dX8_isOpen_48 (by decide) ?_
          exact g_zret C hret hlk (nar_b (by decide)).1 (e1.trans (congrArg (fun z => some (Value.int z)) ((if_pos h1).trans ((if_neg h2).trans ((if_neg h3).trans ((if_pos h4).trans rfl)))))) e2 dX8_isOpen_49
        · refine g_iconst (v := 1) C dX8_isOpen_44 (by decide) ?_
          refine g_goto (tgt := 49) C dX8_isOpen_45 (by decide) ?_
          exact g_zret C hret hlk (nar_b (by decide)).1 (e1.trans (congrArg (fun z => some (Value.int z)) ((if_pos h1).trans ((if_neg h2).trans ((if_neg h3).trans ((if_neg h4).trans rfl)))))) e2 dX8_isOpen_49
theorem z_X8_isOpen {k : Nat} {ω : Mem} : bb (f_X8_isOpen k ω) = f_X8_isOpen k ω := by
  unfold f_X8_isOpen
  repeat' split
  all_goals first | with_reducible exact bb_bb _ | decide
abbrev rm_X8_records : Room := { frames := 0, cells := 0, slots := 0, locals := 0 }
theorem md_X8_records : yX8_records.cls = RX8 ∧ yX8_records.cls ≠ "java/lang/invoke/MethodHandle" ∧ yX8_records.cls ≠ "java/lang/invoke/VarHandle" ∧ (parseMethodDescriptor yX8_records.desc).map (fun d => d.parameters.length) = some 0 := by decide +kernel
def f_X8_records_50 : Nat → Nat → Mem → Mem
  | 0, _, ω => ω
  | fu + 1, j, ω => (if 108 ≤ j then (st ω 120 4 ((ω 120 4) + 1)) else (f_X8_records_50 fu (j + 1) (st ω 123 (108 * ((ω 120 4).toNatClampNeg) + j) (ω 121 j))))
set_option maxRecDepth 100000 in
set_option maxHeartbeats 4000000 in
theorem k_X8_records_50 {l_ : Launch} {p_ : Program} {e_ : Env} {s_ : State} {m_ : MethodId} {args_ : Array Value} {below_ : List Frame} {meth_ : Method} {c_ : Code} {sa : Nat → Nat} {D : va_G} {X : Nat → ClassId} {ad : Nat → Nat} {G0 : Nat → va_E} (fu : Nat)  (C : GC p_ rm_X8_records s_ m_ args_ meth_ c_ cX8_records 2 wsX8_records RX8 sa D (tyX X) (va_A (gw 128 ad G0) s_.heap.size)) (hret : meth_.sig.returnType = none) (hlk : meth_.locks = false) : ∀ (j : Nat) (ω : Mem) (hmi : MIn 10 ω) (h3 : rg (ω 120 4) 3) (hj : j ≤ 108) (hfuel : 108 < j + fu) (rv : Option Value) (G2 : Nat → va_E) (e1 : rv = none) (e2 : G2 = mk X ad (f_X8_records_50 fu j ω)), GV p_ l_ e_ rm_X8_records s_ m_ args_ below_ meth_ c_ 0 0 (CQ below_ args_ s_ D 128 ad G0 rv G2) D (va_A (gw 128 ad G0) s_.heap.size) 2 128 ad (mk X ad ω) [(0, .ref (ad 120)), (1, .int (nI (j)))] 50 [] := by
  have iX8 : ∀ w ∈ u_ws RX8 TX8 14, w ∈ wsX8_records := by decide +kernel
  have L16 : Cond.fieldLink RX8 16 (TX8 3).1 (TX8 3).2.1 (TX8 3).2.2.1 ∈ wsX8_records := by decide +kernel
  have L39 : Cond.fieldLink RX8 39 (TX8 4).1 (TX8 4).2.1 (TX8 4).2.2.1 ∈ wsX8_records := by decide +kernel
  have L7 : Cond.fieldLink RX8 7 (TX8 1).1 (TX8 1).2.1 (TX8 1).2.2.1 ∈ wsX8_records := by decide +kernel
  induction fu with
  | zero =>
    intro j ω hmi h3 hj hfuel rv G2 e1 e2
    exact absurd hfuel (by omega)
  | succ fu ih =>
    intro j ω hmi h3 hj hfuel rv G2 e1 e2
    refine g_iload_n C dX8_records_50 rfl 1 rfl ?_
    refine g_bipush (v := 108) C dX8_records_51 (by decide) ?_
    refine g_icmp_ge (tgt := 82) C dX8_records_53 (by decide) (fun h1 => ?_) (fun h1 => ?_)
    · have h1n := (nI_leI (a := 108) (b := j) (by omega) (by omega)).mp h1
      refine g_aload_n C dX8_records_82 rfl 0 rfl ?_
      refine g_dup C dX8_records_83 rfl ?_
      refine g_get (v := .int (ω 120 4)) C iX8 (by decide) (mk_11 (by decide)) rfl 4 (by decide) L39 rfl dX8_records_84 ?_
      refine g_iconst (v := 1) C dX8_records_87 (by decide) ?_
      refine g_iadd (v := ((ω 120 4) + 1)) C dX8_records_88 rfl ?_
      refine g_put C iX8 tyX8 tyX8_ok nmX8 (by decide) (mk_11 (by decide)) rfl 4 (by decide) L39 rfl rfl rfl (Nat.le_of_ble_eq_true rfl) dX8_records_89 ?_
      refine gv_eqG (mkp_11_4 (by decide)) ?_
      exact g_vret C hret hlk e1 (e2.trans (congrArg (mk X ad) ((if_pos h1n).trans rfl))) dX8_records_92
    · have h1n := (not_congr (nI_leI (a := 108) (b := j) (by omega) (by omega))).mp h1
      refine g_aload_n C dX8_records_56 rfl 0 rfl ?_
      refine g_get (v := .ref (ad 123)) C iX8 (by decide) (mk_11 (by decide)) rfl 3 (by decide) L16 rfl dX8_records_57 ?_
      refine g_bipush (v := 108) C dX8_records_60 (by decide) ?_
      refine g_aload_n C dX8_records_62 rfl 0 rfl ?_
      refine g_get (v := .int (ω 120 4)) C iX8 (by decide) (mk_11 (by decide)) rfl 4 (by decide) L39 rfl dX8_records_63 ?_
      have hz2 : (ω 120 4).toNatClampNeg ≤ _ := (h3).2
      refine gv_eqS (st' := [.int (nI ((ω 120 4).toNatClampNeg)), .int 108, .ref (ad 123)]) (congrArg (fun z : Int32 => ([Value.int z, .int 108, .ref (ad 123)] : List Value)) (h3).1) ?_
      refine g_imul (v := (nI (108 * ((ω 120 4).toNatClampNeg)))) C dX8_records_66 (pk_mul (108) ((ω 120 4).toNatClampNeg)) ?_
      refine g_iload_n C dX8_records_67 rfl 1 rfl ?_
      refine g_iadd (v := (nI (108 * ((ω 120 4).toNatClampNeg) + j))) C dX8_records_68 (nI_add (108 * ((ω 120 4).toNatClampNeg)) (j)) ?_
      refine g_aload_n C dX8_records_69 rfl 0 rfl ?_
      refine g_get (v := .ref (ad 121)) C iX8 (by decide) (mk_11 (by decide)) rfl 1 (by decide) L7 rfl dX8_records_70 ?_
      refine g_iload_n C dX8_records_73 rfl 1 rfl ?_
      refine g_iald (k := j) C 0 (by decide) (mk_12n (N := 108) (by decide) (by decide)) rfl (vp_in_nI (n := j) (by omega) (by decide)) (nI_clamp (n := j) (by omega)) dX8_records_74 ?_
      refine g_iast (k := 108 * ((ω 120 4).toNatClampNeg) + j) C 0 (by decide) (mk_12n (N := 432) (by decide) (by decide)) rfl (vp_in_nI (n := 108 * ((ω 120 4).toNatClampNeg) + j) (by omega) (by decide)) (nI_clamp (n := 108 * ((ω 120 4).toNatClampNeg) + j) (by omega)) dX8_records_75 ?_
      refine gv_eqG (mk_row (N := 432) (by decide) (by decide)) ?_
      refine g_iinc (k := 1) (v := (nI (j + 1))) (lv' := [(1, .int (nI (j + 1))), (0, .ref (ad 120))]) C dX8_records_76 rfl (nI_1 (j)) (by decide) rfl ?_
      refine g_goto (tgt := 50) C dX8_records_79 (by decide) ?_
      refine gv_lv (lv' := [(0, .ref (ad 120)), (1, .int (nI (j + 1)))]) [1, 0] rfl ?_
      exact ih (j + 1) (st ω 123 (108 * ((ω 120 4).toNatClampNeg) + j) (ω 121 j)) (MIn_o hmi (by decide) (by decide)) h3 (by omega) (by omega) _ _ e1 (e2.trans (congrArg (mk X ad) ((if_neg h1n).trans rfl)))
theorem mi_X8_records_50  : ∀ (fu : Nat) (j : Nat) (ω : Mem) (hmi : MIn 10 ω) (h3 : rg (ω 120 4) 3) (hj : j ≤ 108) (hfuel : 108 < j + fu), MIn 10 (f_X8_records_50 fu j ω) := by
  intro fu
  induction fu with
  | zero =>
    intro j ω hmi h3 hj hfuel
    exact absurd hfuel (by omega)
  | succ fu ih =>
    intro j ω hmi h3 hj hfuel
    unfold f_X8_records_50
    have hz1 := hmi.1.2; have hz2 := hmi.2.1.2; have hz3 := hmi.2.2.2
    by_cases h1n : 108 ≤ j
    · rw [if_pos h1n]
      exact (MIn_4 hmi (rg_inc h3 (by decide)))
    · rw [if_neg h1n]
      exact ih (j + 1) (st ω 123 (108 * ((ω 120 4).toNatClampNeg) + j) (ω 121 j)) (MIn_o hmi (by decide) (by decide)) h3 (by omega) (by omega)
def f_X8_records_10 : Nat → Nat → Mem → Mem
  | 0, _, ω => ω
  | fu + 1, j, ω => (if 324 ≤ j then (f_X8_records_50 109 0 (st ω 120 4 ((ω 120 4) - 1))) else (f_X8_records_10 fu (j + 1) (st ω 123 j (ω 123 (j + 108)))))
set_option maxRecDepth 100000 in
set_option maxHeartbeats 4000000 in
theorem k_X8_records_10 {l_ : Launch} {p_ : Program} {e_ : Env} {s_ : State} {m_ : MethodId} {args_ : Array Value} {below_ : List Frame} {meth_ : Method} {c_ : Code} {sa : Nat → Nat} {D : va_G} {X : Nat → ClassId} {ad : Nat → Nat} {G0 : Nat → va_E} (fu : Nat)  (C : GC p_ rm_X8_records s_ m_ args_ meth_ c_ cX8_records 2 wsX8_records RX8 sa D (tyX X) (va_A (gw 128 ad G0) s_.heap.size)) (hret : meth_.sig.returnType = none) (hlk : meth_.locks = false) : ∀ (j : Nat) (ω : Mem) (hmi : MIn 10 ω) (h4 : ω 120 4 = 4) (hj : j ≤ 324) (hfuel : 324 < j + fu) (rv : Option Value) (G2 : Nat → va_E) (e1 : rv = none) (e2 : G2 = mk X ad (f_X8_records_10 fu j ω)), GV p_ l_ e_ rm_X8_records s_ m_ args_ below_ meth_ c_ 0 0 (CQ below_ args_ s_ D 128 ad G0 rv G2) D (va_A (gw 128 ad G0) s_.heap.size) 2 128 ad (mk X ad ω) [(0, .ref (ad 120)), (1, .int (nI (j)))] 10 [] := by
  have iX8 : ∀ w ∈ u_ws RX8 TX8 14, w ∈ wsX8_records := by decide +kernel
  have L16 : Cond.fieldLink RX8 16 (TX8 3).1 (TX8 3).2.1 (TX8 3).2.2.1 ∈ wsX8_records := by decide +kernel
  have L39 : Cond.fieldLink RX8 39 (TX8 4).1 (TX8 4).2.1 (TX8 4).2.2.1 ∈ wsX8_records := by decide +kernel
  induction fu with
  | zero =>
    intro j ω hmi h4 hj hfuel rv G2 e1 e2
    exact absurd hfuel (by omega)
  | succ fu ih =>
    intro j ω hmi h4 hj hfuel rv G2 e1 e2
    refine g_iload_n C dX8_records_10 rfl 1 rfl ?_
    refine g_sipush (v := 324) C dX8_records_11 (by decide) ?_
    refine g_icmp_ge (tgt := 38) C dX8_records_14 (by decide) (fun h1 => ?_) (fun h1 => ?_)
    · have h1n := (nI_leI (a := 324) (b := j) (by omega) (by omega)).mp h1
      refine g_aload_n C dX8_records_38 rfl 0 rfl ?_
      refine g_dup C dX8_records_39 rfl ?_
      refine g_get (v := .int (ω 120 4)) C iX8 (by decide) (mk_11 (by decide)) rfl 4 (by decide) L39 rfl dX8_records_40 ?_
      refine g_iconst (v := 1) C dX8_records_43 (by decide) ?_
      refine g_isub (v := ((ω 120 4) - 1)) C dX8_records_44 rfl ?_
      refine g_put C iX8 tyX8 tyX8_ok nmX8 (by decide) (mk_11 (by decide)) rfl 4 (by decide) L39 rfl rfl rfl (Nat.le_of_ble_eq_true rfl) dX8_records_45 ?_
      refine gv_eqG (mkp_11_4 (by decide)) ?_
      refine g_iconst (v := 0) C dX8_records_48 (by decide) ?_
      refine g_istore_n (lv' := [(1, .int 0), (0, .ref (ad 120))]) C dX8_records_49 rfl (by decide) rfl ?_
      refine gv_lv (lv' := [(0, .ref (ad 120)), (1, .int 0)]) [1, 0] rfl ?_
      exact k_X8_records_50 (109)   C hret hlk 0 (st ω 120 4 ((ω 120 4) - 1)) (MIn_4 hmi (rg_mono (rg_4 h4) (by decide))) (rg_4 h4) (by omega) (by omega) _ _ e1 (e2.trans (congrArg (mk X ad) ((if_pos h1n).trans rfl)))
    · have h1n := (not_congr (nI_leI (a := 324) (b := j) (by omega) (by omega))).mp h1
      refine g_aload_n C dX8_records_17 rfl 0 rfl ?_
      refine g_get (v := .ref (ad 123)) C iX8 (by decide) (mk_11 (by decide)) rfl 3 (by decide) L16 rfl dX8_records_18 ?_
      refine g_iload_n C dX8_records_21 rfl 1 rfl ?_
      refine g_aload_n C dX8_records_22 rfl 0 rfl ?_
      refine g_get (v := .ref (ad 123)) C iX8 (by decide) (mk_11 (by decide)) rfl 3 (by decide) L16 rfl dX8_records_23 ?_
      refine g_iload_n C dX8_records_26 rfl 1 rfl ?_
      refine g_bipush (v := 108) C dX8_records_27 (by decide) ?_
      refine g_iadd (v := (nI (j + 108))) C dX8_records_29 (nI_add (j) (108)) ?_
      refine g_iald (k := j + 108) C 0 (by decide) (mk_12n (N := 432) (by decide) (by decide)) rfl (vp_in_nI (n := j + 108) (by omega) (by decide)) (nI_clamp (n := j + 108) (by omega)) dX8_records_30 ?_
      refine g_iast (k := j) C 0 (by decide) (mk_12n (N := 432) (by decide) (by decide)) rfl (vp_in_nI (n := j) (by omega) (by decide)) (nI_clamp (n := j) (by omega)) dX8_records_31 ?_
      refine gv_eqG (mk_row (N := 432) (by decide) (by decide)) ?_
      refine g_iinc (k := 1) (v := (nI (j + 1))) (lv' := [(1, .int (nI (j + 1))), (0, .ref (ad 120))]) C dX8_records_32 rfl (nI_1 (j)) (by decide) rfl ?_
      refine g_goto (tgt := 10) C dX8_records_35 (by decide) ?_
      refine gv_lv (lv' := [(0, .ref (ad 120)), (1, .int (nI (j + 1)))]) [1, 0] rfl ?_
      exact ih (j + 1) (st ω 123 j (ω 123 (j + 108))) (MIn_o hmi (by decide) (by decide)) h4 (by omega) (by omega) _ _ e1 (e2.trans (congrArg (mk X ad) ((if_neg h1n).trans rfl)))
theorem mi_X8_records_10  : ∀ (fu : Nat) (j : Nat) (ω : Mem) (hmi : MIn 10 ω) (h4 : ω 120 4 = 4) (hj : j ≤ 324) (hfuel : 324 < j + fu), MIn 10 (f_X8_records_10 fu j ω) := by
  intro fu
  induction fu with
  | zero =>
    intro j ω hmi h4 hj hfuel
    exact absurd hfuel (by omega)
  | succ fu ih =>
    intro j ω hmi h4 hj hfuel
    unfold f_X8_records_10
    have hz1 := hmi.1.2; have hz2 := hmi.2.1.2; have hz3 := hmi.2.2.2
    by_cases h1n : 324 ≤ j
    · rw [if_pos h1n]
      exact mi_X8_records_50   (109) 0 (st ω 120 4 ((ω 120 4) - 1)) (MIn_4 hmi (rg_mono (rg_4 h4) (by decide))) (rg_4 h4) (by omega) (by omega)
    · rw [if_neg h1n]
      exact ih (j + 1) (st ω 123 j (ω 123 (j + 108))) (MIn_o hmi (by decide) (by decide)) h4 (by omega) (by omega)
def f_X8_records  (ω : Mem) : Mem := (if (ω 120 4) = 4 then (f_X8_records_10 325 0 ω) else (f_X8_records_50 109 0 ω))
theorem mi_X8_records  (ω : Mem) (hmi : MIn 10 ω) : MIn 10 (f_X8_records ω) := by
  unfold f_X8_records
  have hz1 := hmi.1.2; have hz2 := hmi.2.1.2; have hz3 := hmi.2.2.2
  by_cases h1 : (ω 120 4) = 4
  · rw [if_pos h1]
    exact mi_X8_records_10   (325) 0 ω hmi h1 (by omega) (by omega)
  · rw [if_neg h1]
    exact mi_X8_records_50   (109) 0 ω hmi (rg_ne (n := 3) hmi.2.2 (by decide) h1) (by omega) (by omega)
set_option maxRecDepth 100000 in
set_option maxHeartbeats 4000000 in
theorem c_X8_records {l_ : Launch} {sa : Nat → Nat} {D : va_G} {X : Nat → ClassId} {ad : Nat → Nat}  (ω : Mem) (hmi : MIn 10 ω) : CT l_ yX8_records wsX8_records rm_X8_records sa D (tyX X) 128 ad (mk X ad ω) [.ref (ad 120)] (none : Option Value) (mk X ad (f_X8_records ω)) := by
  refine ct_of [(0, .ref (ad 120))] (by decide +kernel) rfl rfl (Nat.le_of_ble_eq_true rfl) rfl ?_
  intro p_ e_ s_ m_ args_ below_ meth_ c_ C hret hlk hin
  have e1 : (none : Option Value) = (none : Option Value) := rfl
  have e2 : mk X ad (f_X8_records ω) = mk X ad (f_X8_records ω) := rfl
  have iX8 : ∀ w ∈ u_ws RX8 TX8 14, w ∈ wsX8_records := by decide +kernel
  have L39 : Cond.fieldLink RX8 39 (TX8 4).1 (TX8 4).2.1 (TX8 4).2.2.1 ∈ wsX8_records := by decide +kernel
  refine g_aload_n C dX8_records_0 rfl 0 rfl ?_
  refine g_get (v := .int (ω 120 4)) C iX8 (by decide) (mk_11 (by decide)) rfl 4 (by decide) L39 rfl dX8_records_1 ?_
  refine g_iconst (v := 4) C dX8_records_4 (by decide) ?_
  refine g_icmp_ne (tgt := 48) C dX8_records_5 (by decide) (fun h1 => ?_) (fun h1 => ?_)
  · refine g_iconst (v := 0) C dX8_records_48 (by decide) ?_
    refine g_istore_n (lv' := [(1, .int 0), (0, .ref (ad 120))]) C dX8_records_49 rfl (by decide) rfl ?_
    refine gv_lv (lv' := [(0, .ref (ad 120)), (1, .int 0)]) [1, 0] rfl ?_
    exact k_X8_records_50 (109)   C hret hlk 0 ω hmi (rg_ne (n := 3) hmi.2.2 (by decide) h1) (by omega) (by omega) _ _ e1 (e2.trans (congrArg (mk X ad) ((if_neg h1).trans rfl)))
  · refine g_iconst (v := 0) C dX8_records_8 (by decide) ?_
    refine g_istore_n (lv' := [(1, .int 0), (0, .ref (ad 120))]) C dX8_records_9 rfl (by decide) rfl ?_
    refine gv_lv (lv' := [(0, .ref (ad 120)), (1, .int 0)]) [1, 0] rfl ?_
    exact k_X8_records_10 (325)   C hret hlk 0 ω hmi h1 (by omega) (by omega) _ _ e1 (e2.trans (congrArg (mk X ad) ((if_pos h1).trans rfl)))
abbrev rm_X8_putAside : Room := { frames := 0, cells := 0, slots := 0, locals := 0 }
theorem md_X8_putAside : yX8_putAside.cls = RX8 ∧ yX8_putAside.cls ≠ "java/lang/invoke/MethodHandle" ∧ yX8_putAside.cls ≠ "java/lang/invoke/VarHandle" ∧ (parseMethodDescriptor yX8_putAside.desc).map (fun d => d.parameters.length) = some 0 := by decide +kernel
def f_X8_putAside_2 : Nat → Nat → Mem → Mem
  | 0, _, ω => ω
  | fu + 1, j, ω => (if 108 ≤ j then ω else (f_X8_putAside_2 fu (j + 1) (st ω 122 j (ω 121 j))))
set_option maxRecDepth 100000 in
set_option maxHeartbeats 4000000 in
theorem k_X8_putAside_2 {l_ : Launch} {p_ : Program} {e_ : Env} {s_ : State} {m_ : MethodId} {args_ : Array Value} {below_ : List Frame} {meth_ : Method} {c_ : Code} {sa : Nat → Nat} {D : va_G} {X : Nat → ClassId} {ad : Nat → Nat} {G0 : Nat → va_E} (fu : Nat)  (C : GC p_ rm_X8_putAside s_ m_ args_ meth_ c_ cX8_putAside 2 wsX8_putAside RX8 sa D (tyX X) (va_A (gw 128 ad G0) s_.heap.size)) (hret : meth_.sig.returnType = none) (hlk : meth_.locks = false) : ∀ (j : Nat) (ω : Mem) (hmi : MIn 10 ω) (hj : j ≤ 108) (hfuel : 108 < j + fu) (rv : Option Value) (G2 : Nat → va_E) (e1 : rv = none) (e2 : G2 = mk X ad (f_X8_putAside_2 fu j ω)), GV p_ l_ e_ rm_X8_putAside s_ m_ args_ below_ meth_ c_ 0 0 (CQ below_ args_ s_ D 128 ad G0 rv G2) D (va_A (gw 128 ad G0) s_.heap.size) 2 128 ad (mk X ad ω) [(0, .ref (ad 120)), (1, .int (nI (j)))] 2 [] := by
  have iX8 : ∀ w ∈ u_ws RX8 TX8 14, w ∈ wsX8_putAside := by decide +kernel
  have L13 : Cond.fieldLink RX8 13 (TX8 2).1 (TX8 2).2.1 (TX8 2).2.2.1 ∈ wsX8_putAside := by decide +kernel
  have L7 : Cond.fieldLink RX8 7 (TX8 1).1 (TX8 1).2.1 (TX8 1).2.2.1 ∈ wsX8_putAside := by decide +kernel
  induction fu with
  | zero =>
    intro j ω hmi hj hfuel rv G2 e1 e2
    exact absurd hfuel (by omega)
  | succ fu ih =>
    intro j ω hmi hj hfuel rv G2 e1 e2
    refine g_iload_n C dX8_putAside_2 rfl 1 rfl ?_
    refine g_bipush (v := 108) C dX8_putAside_3 (by decide) ?_
    refine g_icmp_ge (tgt := 26) C dX8_putAside_5 (by decide) (fun h1 => ?_) (fun h1 => ?_)
    · have h1n := (nI_leI (a := 108) (b := j) (by omega) (by omega)).mp h1
      exact g_vret C hret hlk e1 (e2.trans (congrArg (mk X ad) ((if_pos h1n).trans rfl))) dX8_putAside_26
    · have h1n := (not_congr (nI_leI (a := 108) (b := j) (by omega) (by omega))).mp h1
      refine g_aload_n C dX8_putAside_8 rfl 0 rfl ?_
      refine g_get (v := .ref (ad 122)) C iX8 (by decide) (mk_11 (by decide)) rfl 2 (by decide) L13 rfl dX8_putAside_9 ?_
      refine g_iload_n C dX8_putAside_12 rfl 1 rfl ?_
      refine g_aload_n C dX8_putAside_13 rfl 0 rfl ?_
      refine g_get (v := .ref (ad 121)) C iX8 (by decide) (mk_11 (by decide)) rfl 1 (by decide) L7 rfl dX8_putAside_14 ?_
      refine g_iload_n C dX8_putAside_17 rfl 1 rfl ?_
      refine g_iald (k := j) C 0 (by decide) (mk_12n (N := 108) (by decide) (by decide)) rfl (vp_in_nI (n := j) (by omega) (by decide)) (nI_clamp (n := j) (by omega)) dX8_putAside_18 ?_
      refine g_iast (k := j) C 0 (by decide) (mk_12n (N := 108) (by decide) (by decide)) rfl (vp_in_nI (n := j) (by omega) (by decide)) (nI_clamp (n := j) (by omega)) dX8_putAside_19 ?_
      refine gv_eqG (mk_row (N := 108) (by decide) (by decide)) ?_
      refine g_iinc (k := 1) (v := (nI (j + 1))) (lv' := [(1, .int (nI (j + 1))), (0, .ref (ad 120))]) C dX8_putAside_20 rfl (nI_1 (j)) (by decide) rfl ?_
      refine g_goto (tgt := 2) C dX8_putAside_23 (by decide) ?_
      refine gv_lv (lv' := [(0, .ref (ad 120)), (1, .int (nI (j + 1)))]) [1, 0] rfl ?_
      exact ih (j + 1) (st ω 122 j (ω 121 j)) (MIn_o hmi (by decide) (by decide)) (by omega) (by omega) _ _ e1 (e2.trans (congrArg (mk X ad) ((if_neg h1n).trans rfl)))
theorem mi_X8_putAside_2  : ∀ (fu : Nat) (j : Nat) (ω : Mem) (hmi : MIn 10 ω) (hj : j ≤ 108) (hfuel : 108 < j + fu), MIn 10 (f_X8_putAside_2 fu j ω) := by
  intro fu
  induction fu with
  | zero =>
    intro j ω hmi hj hfuel
    exact absurd hfuel (by omega)
  | succ fu ih =>
    intro j ω hmi hj hfuel
    unfold f_X8_putAside_2
    have hz1 := hmi.1.2; have hz2 := hmi.2.1.2; have hz3 := hmi.2.2.2
    by_cases h1n : 108 ≤ j
    · rw [if_pos h1n]
      exact hmi
    · rw [if_neg h1n]
      exact ih (j + 1) (st ω 122 j (ω 121 j)) (MIn_o hmi (by decide) (by decide)) (by omega) (by omega)
def f_X8_putAside  (ω : Mem) : Mem := (f_X8_putAside_2 109 0 ω)
theorem mi_X8_putAside  (ω : Mem) (hmi : MIn 10 ω) : MIn 10 (f_X8_putAside ω) := by
  unfold f_X8_putAside
  have hz1 := hmi.1.2; have hz2 := hmi.2.1.2; have hz3 := hmi.2.2.2
  exact mi_X8_putAside_2   (109) 0 ω hmi (by omega) (by omega)
set_option maxRecDepth 100000 in
set_option maxHeartbeats 4000000 in
theorem c_X8_putAside {l_ : Launch} {sa : Nat → Nat} {D : va_G} {X : Nat → ClassId} {ad : Nat → Nat}  (ω : Mem) (hmi : MIn 10 ω) : CT l_ yX8_putAside wsX8_putAside rm_X8_putAside sa D (tyX X) 128 ad (mk X ad ω) [.ref (ad 120)] (none : Option Value) (mk X ad (f_X8_putAside ω)) := by
  refine ct_of [(0, .ref (ad 120))] (by decide +kernel) rfl rfl (Nat.le_of_ble_eq_true rfl) rfl ?_
  intro p_ e_ s_ m_ args_ below_ meth_ c_ C hret hlk hin
  have e1 : (none : Option Value) = (none : Option Value) := rfl
  have e2 : mk X ad (f_X8_putAside ω) = mk X ad (f_X8_putAside ω) := rfl
  refine g_iconst (v := 0) C dX8_putAside_0 (by decide) ?_
  refine g_istore_n (lv' := [(1, .int 0), (0, .ref (ad 120))]) C dX8_putAside_1 rfl (by decide) rfl ?_
  refine gv_lv (lv' := [(0, .ref (ad 120)), (1, .int 0)]) [1, 0] rfl ?_
  exact k_X8_putAside_2 (109)   C hret hlk 0 ω hmi (by omega) (by omega) _ _ e1 (e2.trans (congrArg (mk X ad) rfl))
abbrev rm_X8_takeBack : Room := { frames := 0, cells := 0, slots := 0, locals := 0 }
theorem md_X8_takeBack : yX8_takeBack.cls = RX8 ∧ yX8_takeBack.cls ≠ "java/lang/invoke/MethodHandle" ∧ yX8_takeBack.cls ≠ "java/lang/invoke/VarHandle" ∧ (parseMethodDescriptor yX8_takeBack.desc).map (fun d => d.parameters.length) = some 0 := by decide +kernel
def f_X8_takeBack_2 : Nat → Nat → Mem → Mem
  | 0, _, ω => ω
  | fu + 1, j, ω => (if 108 ≤ j then ω else (f_X8_takeBack_2 fu (j + 1) (st ω 121 j (ω 122 j))))
set_option maxRecDepth 100000 in
set_option maxHeartbeats 4000000 in
theorem k_X8_takeBack_2 {l_ : Launch} {p_ : Program} {e_ : Env} {s_ : State} {m_ : MethodId} {args_ : Array Value} {below_ : List Frame} {meth_ : Method} {c_ : Code} {sa : Nat → Nat} {D : va_G} {X : Nat → ClassId} {ad : Nat → Nat} {G0 : Nat → va_E} (fu : Nat)  (C : GC p_ rm_X8_takeBack s_ m_ args_ meth_ c_ cX8_takeBack 2 wsX8_takeBack RX8 sa D (tyX X) (va_A (gw 128 ad G0) s_.heap.size)) (hret : meth_.sig.returnType = none) (hlk : meth_.locks = false) : ∀ (j : Nat) (ω : Mem) (hj : j ≤ 108) (hfuel : 108 < j + fu) (rv : Option Value) (G2 : Nat → va_E) (e1 : rv = none) (e2 : G2 = mk X ad (f_X8_takeBack_2 fu j ω)), GV p_ l_ e_ rm_X8_takeBack s_ m_ args_ below_ meth_ c_ 0 0 (CQ below_ args_ s_ D 128 ad G0 rv G2) D (va_A (gw 128 ad G0) s_.heap.size) 2 128 ad (mk X ad ω) [(0, .ref (ad 120)), (1, .int (nI (j)))] 2 [] := by
  have iX8 : ∀ w ∈ u_ws RX8 TX8 14, w ∈ wsX8_takeBack := by decide +kernel
  have L13 : Cond.fieldLink RX8 13 (TX8 2).1 (TX8 2).2.1 (TX8 2).2.2.1 ∈ wsX8_takeBack := by decide +kernel
  have L7 : Cond.fieldLink RX8 7 (TX8 1).1 (TX8 1).2.1 (TX8 1).2.2.1 ∈ wsX8_takeBack := by decide +kernel
  induction fu with
  | zero =>
    intro j ω hj hfuel rv G2 e1 e2
    exact absurd hfuel (by omega)
  | succ fu ih =>
    intro j ω hj hfuel rv G2 e1 e2
    refine g_iload_n C dX8_takeBack_2 rfl 1 rfl ?_
    refine g_bipush (v := 108) C dX8_takeBack_3 (by decide) ?_
    refine g_icmp_ge (tgt := 26) C dX8_takeBack_5 (by decide) (fun h1 => ?_) (fun h1 => ?_)
    · have h1n := (nI_leI (a := 108) (b := j) (by omega) (by omega)).mp h1
      exact g_vret C hret hlk e1 (e2.trans (congrArg (mk X ad) ((if_pos h1n).trans rfl))) dX8_takeBack_26
    · have h1n := (not_congr (nI_leI (a := 108) (b := j) (by omega) (by omega))).mp h1
      refine g_aload_n C dX8_takeBack_8 rfl 0 rfl ?_
      refine g_get (v := .ref (ad 121)) C iX8 (by decide) (mk_11 (by decide)) rfl 1 (by decide) L7 rfl dX8_takeBack_9 ?_
      refine g_iload_n C dX8_takeBack_12 rfl 1 rfl ?_
      refine g_aload_n C dX8_takeBack_13 rfl 0 rfl ?_
      refine g_get (v := .ref (ad 122)) C iX8 (by decide) (mk_11 (by decide)) rfl 2 (by decide) L13 rfl dX8_takeBack_14 ?_
      refine g_iload_n C dX8_takeBack_17 rfl 1 rfl ?_
      refine g_iald (k := j) C 0 (by decide) (mk_12n (N := 108) (by decide) (by decide)) rfl (vp_in_nI (n := j) (by omega) (by decide)) (nI_clamp (n := j) (by omega)) dX8_takeBack_18 ?_
      refine g_iast (k := j) C 0 (by decide) (mk_12n (N := 108) (by decide) (by decide)) rfl (vp_in_nI (n := j) (by omega) (by decide)) (nI_clamp (n := j) (by omega)) dX8_takeBack_19 ?_
      refine gv_eqG (mk_row (N := 108) (by decide) (by decide)) ?_
      refine g_iinc (k := 1) (v := (nI (j + 1))) (lv' := [(1, .int (nI (j + 1))), (0, .ref (ad 120))]) C dX8_takeBack_20 rfl (nI_1 (j)) (by decide) rfl ?_
      refine g_goto (tgt := 2) C dX8_takeBack_23 (by decide) ?_
      refine gv_lv (lv' := [(0, .ref (ad 120)), (1, .int (nI (j + 1)))]) [1, 0] rfl ?_
      exact ih (j + 1) (st ω 121 j (ω 122 j)) (by omega) (by omega) _ _ e1 (e2.trans (congrArg (mk X ad) ((if_neg h1n).trans rfl)))
def f_X8_takeBack  (ω : Mem) : Mem := (f_X8_takeBack_2 109 0 ω)
set_option maxRecDepth 100000 in
set_option maxHeartbeats 4000000 in
theorem c_X8_takeBack {l_ : Launch} {sa : Nat → Nat} {D : va_G} {X : Nat → ClassId} {ad : Nat → Nat}  (ω : Mem)  : CT l_ yX8_takeBack wsX8_takeBack rm_X8_takeBack sa D (tyX X) 128 ad (mk X ad ω) [.ref (ad 120)] (none : Option Value) (mk X ad (f_X8_takeBack ω)) := by
  refine ct_of [(0, .ref (ad 120))] (by decide +kernel) rfl rfl (Nat.le_of_ble_eq_true rfl) rfl ?_
  intro p_ e_ s_ m_ args_ below_ meth_ c_ C hret hlk hin
  have e1 : (none : Option Value) = (none : Option Value) := rfl
  have e2 : mk X ad (f_X8_takeBack ω) = mk X ad (f_X8_takeBack ω) := rfl
  refine g_iconst (v := 0) C dX8_takeBack_0 (by decide) ?_
  refine g_istore_n (lv' := [(1, .int 0), (0, .ref (ad 120))]) C dX8_takeBack_1 rfl (by decide) rfl ?_
  refine gv_lv (lv' := [(0, .ref (ad 120)), (1, .int 0)]) [1, 0] rfl ?_
  exact k_X8_takeBack_2 (109)   C hret hlk 0 ω (by omega) (by omega) _ _ e1 (e2.trans (congrArg (mk X ad) rfl))
abbrev rm_X8_draftAt : Room := { frames := 0, cells := 0, slots := 0, locals := 0 }
theorem md_X8_draftAt : yX8_draftAt.cls = RX8 ∧ yX8_draftAt.cls ≠ "java/lang/invoke/MethodHandle" ∧ yX8_draftAt.cls ≠ "java/lang/invoke/VarHandle" ∧ (parseMethodDescriptor yX8_draftAt.desc).map (fun d => d.parameters.length) = some 1 := by decide +kernel
def f_X8_draftAt_4 : Nat → Int32 → Int32 → Nat → Mem → Int32
  | 0, _, _, _, _ => 0
  | fu + 1, t, d, j, ω => (if (ω 121 43).toNatClampNeg ≤ j then d else (if t < (ω 121 (44 + 2 * j)) then (f_X8_draftAt_4 fu t d (j + 1) ω) else (f_X8_draftAt_4 fu t (ω 121 (44 + 2 * j + 1)) (j + 1) ω)))
set_option maxRecDepth 100000 in
set_option maxHeartbeats 4000000 in
theorem k_X8_draftAt_4 {l_ : Launch} {p_ : Program} {e_ : Env} {s_ : State} {m_ : MethodId} {args_ : Array Value} {below_ : List Frame} {meth_ : Method} {c_ : Code} {sa : Nat → Nat} {D : va_G} {X : Nat → ClassId} {ad : Nat → Nat} {G0 : Nat → va_E} (fu : Nat) (t : Int32) (C : GC p_ rm_X8_draftAt s_ m_ args_ meth_ c_ cX8_draftAt 4 wsX8_draftAt RX8 sa D (tyX X) (va_A (gw 128 ad G0) s_.heap.size)) (hret : meth_.sig.returnType = (some .int)) (hlk : meth_.locks = false) : ∀ (d : Int32) (j : Nat) (ω : Mem) (hmi : MIn 10 ω) (hj : j ≤ 12) (hfuel : 12 < j + fu) (rv : Option Value) (G2 : Nat → va_E) (e1 : rv = some (.int (f_X8_draftAt_4 fu t d j ω))) (e2 : G2 = mk X ad ω), GV p_ l_ e_ rm_X8_draftAt s_ m_ args_ below_ meth_ c_ 0 0 (CQ below_ args_ s_ D 128 ad G0 rv G2) D (va_A (gw 128 ad G0) s_.heap.size) 4 128 ad (mk X ad ω) [(0, .ref (ad 120)), (1, .int t), (2, .int d), (3, .int (nI (j)))] 4 [] := by
  have iX8 : ∀ w ∈ u_ws RX8 TX8 14, w ∈ wsX8_draftAt := by decide +kernel
  have L7 : Cond.fieldLink RX8 7 (TX8 1).1 (TX8 1).2.1 (TX8 1).2.2.1 ∈ wsX8_draftAt := by decide +kernel
  induction fu with
  | zero =>
    intro d j ω hmi hj hfuel rv G2 e1 e2
    exact absurd hfuel (by omega)
  | succ fu ih =>
    intro d j ω hmi hj hfuel rv G2 e1 e2
    refine g_iload_n C dX8_draftAt_4 rfl 3 rfl ?_
    refine g_aload_n C dX8_draftAt_5 rfl 0 rfl ?_
    refine g_get (v := .ref (ad 121)) C iX8 (by decide) (mk_11 (by decide)) rfl 1 (by decide) L7 rfl dX8_draftAt_6 ?_
    refine g_bipush (v := 43) C dX8_draftAt_9 (by decide) ?_
    refine g_iald (k := 43) C 0 (by decide) (mk_12n (N := 108) (by decide) (by decide)) rfl (by unfold vp_in; decide) rfl dX8_draftAt_11 ?_
    have hz1 : (ω 121 43).toNatClampNeg ≤ _ := (hmi.2.1).2
    refine gv_eqS (st' := [.int (nI ((ω 121 43).toNatClampNeg)), .int (nI (j))]) (congrArg (fun z : Int32 => ([Value.int z, .int (nI (j))] : List Value)) (hmi.2.1).1) ?_
    refine g_icmp_ge (tgt := 54) C dX8_draftAt_12 (by decide) (fun h2 => ?_) (fun h2 => ?_)
    · have h2n := (nI_leI (a := (ω 121 43).toNatClampNeg) (b := j) (by omega) (by omega)).mp h2
      refine g_iload_n C dX8_draftAt_54 rfl 2 rfl ?_
      exact g_iret C hret hlk (e1.trans (congrArg (fun z => some (Value.int z)) ((if_pos h2n).trans rfl))) e2 dX8_draftAt_55
    · have h2n := (not_congr (nI_leI (a := (ω 121 43).toNatClampNeg) (b := j) (by omega) (by omega))).mp h2
      refine g_aload_n C dX8_draftAt_15 rfl 0 rfl ?_
      refine g_get (v := .ref (ad 121)) C iX8 (by decide) (mk_11 (by decide)) rfl 1 (by decide) L7 rfl dX8_draftAt_16 ?_
      refine g_bipush (v := 44) C dX8_draftAt_19 (by decide) ?_
      refine g_iconst (v := 2) C dX8_draftAt_21 (by decide) ?_
      refine g_iload_n C dX8_draftAt_22 rfl 3 rfl ?_
      refine g_imul (v := (nI (2 * j))) C dX8_draftAt_23 (pk_mul (2) (j)) ?_
      refine g_iadd (v := (nI (44 + 2 * j))) C dX8_draftAt_24 (nI_add (44) (2 * j)) ?_
      refine g_iald (k := 44 + 2 * j) C 0 (by decide) (mk_12n (N := 108) (by decide) (by decide)) rfl (vp_in_nI (n := 44 + 2 * j) (by omega) (by decide)) (nI_clamp (n := 44 + 2 * j) (by omega)) dX8_draftAt_25 ?_
      refine g_iload_n C dX8_draftAt_26 rfl 1 rfl ?_
      refine g_icmp_gt (tgt := 46) C dX8_draftAt_27 (by decide) (fun h3 => ?_) (fun h3 => ?_)
      · refine g_iload_n C dX8_draftAt_46 rfl 2 rfl ?_
        refine g_istore_n (lv' := [(2, .int d), (0, .ref (ad 120)), (1, .int t), (3, .int (nI (j)))]) C dX8_draftAt_47 rfl (by decide) rfl ?_
        refine g_iinc (k := 3) (v := (nI (j + 1))) (lv' := [(3, .int (nI (j + 1))), (2, .int d), (0, .ref (ad 120)), (1, .int t)]) C dX8_draftAt_48 rfl (nI_1 (j)) (by decide) rfl ?_
        refine g_goto (tgt := 4) C dX8_draftAt_51 (by decide) ?_
        refine gv_lv (lv' := [(0, .ref (ad 120)), (1, .int t), (2, .int d), (3, .int (nI (j + 1)))]) [2, 3, 1, 0] rfl ?_
        exact ih d (j + 1) ω hmi (by omega) (by omega) _ _ (e1.trans (congrArg (fun z => some (Value.int z)) ((if_neg h2n).trans ((if_pos h3).trans rfl)))) e2
      · refine g_aload_n C dX8_draftAt_30 rfl 0 rfl ?_
        refine g_get (v := .ref (ad 121)) C iX8 (by decide) (mk_11 (by decide)) rfl 1 (by decide) L7 rfl dX8_draftAt_31 ?_
        refine g_bipush (v := 44) C dX8_draftAt_34 (by decide) ?_
        refine g_iconst (v := 2) C dX8_draftAt_36 (by decide) ?_
        refine g_iload_n C dX8_draftAt_37 rfl 3 rfl ?_
        refine g_imul (v := (nI (2 * j))) C dX8_draftAt_38 (pk_mul (2) (j)) ?_
        refine g_iadd (v := (nI (44 + 2 * j))) C dX8_draftAt_39 (nI_add (44) (2 * j)) ?_
        refine g_iconst (v := 1) C dX8_draftAt_40 (by decide) ?_
        refine g_iadd (v := (nI (44 + 2 * j + 1))) C dX8_draftAt_41 (nI_add (44 + 2 * j) (1)) ?_
        refine g_iald (k := 44 + 2 * j + 1) C 0 (by decide) (mk_12n (N := 108) (by decide) (by decide)) rfl (vp_in_nI (n := 44 + 2 * j + 1) (by omega) (by decide)) (nI_clamp (n := 44 + 2 * j + 1) (by omega)) dX8_draftAt_42 ?_
        refine g_goto (tgt := 47) C dX8_draftAt_43 (by decide) ?_
        refine g_istore_n (lv' := [(2, .int (ω 121 (44 + 2 * j + 1))), (0, .ref (ad 120)), (1, .int t), (3, .int (nI (j)))]) C dX8_draftAt_47 rfl (by decide) rfl ?_
        refine g_iinc (k := 3) (v := (nI (j + 1))) (lv' := [(3, .int (nI (j + 1))), (2, .int (ω 121 (44 + 2 * j + 1))), (0, .ref (ad 120)), (1, .int t)]) C dX8_draftAt_48 rfl (nI_1 (j)) (by decide) rfl ?_
        refine g_goto (tgt := 4) C dX8_draftAt_51 (by decide) ?_
        refine gv_lv (lv' := [(0, .ref (ad 120)), (1, .int t), (2, .int (ω 121 (44 + 2 * j + 1))), (3, .int (nI (j + 1)))]) [2, 3, 1, 0] rfl ?_
        exact ih (ω 121 (44 + 2 * j + 1)) (j + 1) ω hmi (by omega) (by omega) _ _ (e1.trans (congrArg (fun z => some (Value.int z)) ((if_neg h2n).trans ((if_neg h3).trans rfl)))) e2
def f_X8_draftAt (t : Int32) (ω : Mem) : Int32 := (f_X8_draftAt_4 13 t 0 0 ω)
set_option maxRecDepth 100000 in
set_option maxHeartbeats 4000000 in
theorem c_X8_draftAt {l_ : Launch} {sa : Nat → Nat} {D : va_G} {X : Nat → ClassId} {ad : Nat → Nat} (t : Int32) (ω : Mem) (hmi : MIn 10 ω) : CT l_ yX8_draftAt wsX8_draftAt rm_X8_draftAt sa D (tyX X) 128 ad (mk X ad ω) [.ref (ad 120), .int t] (some (.int (f_X8_draftAt t ω)) : Option Value) (mk X ad ω) := by
  refine ct_of [(0, .ref (ad 120)), (1, .int t)] (by decide +kernel) rfl rfl (Nat.le_of_ble_eq_true rfl) rfl ?_
  intro p_ e_ s_ m_ args_ below_ meth_ c_ C hret hlk hin
  have e1 : (some (.int (f_X8_draftAt t ω)) : Option Value) = (some (.int (f_X8_draftAt t ω)) : Option Value) := rfl
  have e2 : mk X ad ω = mk X ad ω := rfl
  refine g_iconst (v := 0) C dX8_draftAt_0 (by decide) ?_
  refine g_istore_n (lv' := [(2, .int 0), (0, .ref (ad 120)), (1, .int t)]) C dX8_draftAt_1 rfl (by decide) rfl ?_
  refine g_iconst (v := 0) C dX8_draftAt_2 (by decide) ?_
  refine g_istore_n (lv' := [(3, .int 0), (2, .int 0), (0, .ref (ad 120)), (1, .int t)]) C dX8_draftAt_3 rfl (by decide) rfl ?_
  refine gv_lv (lv' := [(0, .ref (ad 120)), (1, .int t), (2, .int 0), (3, .int 0)]) [2, 3, 1, 0] rfl ?_
  exact k_X8_draftAt_4 (13) t  C hret hlk 0 0 ω hmi (by omega) (by omega) _ _ (e1.trans (congrArg (fun z => some (Value.int z)) rfl)) e2
abbrev rm_X8_tells : Room := { frames := 0, cells := 0, slots := 0, locals := 0 }
theorem md_X8_tells : yX8_tells.cls = RX8 ∧ yX8_tells.cls ≠ "java/lang/invoke/MethodHandle" ∧ yX8_tells.cls ≠ "java/lang/invoke/VarHandle" ∧ (parseMethodDescriptor yX8_tells.desc).map (fun d => d.parameters.length) = some 2 := by decide +kernel
def f_X8_tells_100 (ev : Nat) (b : Int32) (ω : Mem) : Mem := (st (st ω 121 12 ((ω 121 12) + 1)) 121 (8 + ev) (((st ω 121 12 ((ω 121 12) + 1)) 121 (8 + ev)) + 1))
set_option maxRecDepth 100000 in
set_option maxHeartbeats 4000000 in
theorem k_X8_tells_100 {l_ : Launch} {p_ : Program} {e_ : Env} {s_ : State} {m_ : MethodId} {args_ : Array Value} {below_ : List Frame} {meth_ : Method} {c_ : Code} {sa : Nat → Nat} {D : va_G} {X : Nat → ClassId} {ad : Nat → Nat} {G0 : Nat → va_E} (ev : Nat) (b : Int32) (hev : ev < 4) (C : GC p_ rm_X8_tells s_ m_ args_ meth_ c_ cX8_tells 4 wsX8_tells RX8 sa D (tyX X) (va_A (gw 128 ad G0) s_.heap.size)) (hret : meth_.sig.returnType = none) (hlk : meth_.locks = false) : ∀  (ω : Mem) (hmi : MIn 9 ω) (rv : Option Value) (G2 : Nat → va_E) (e1 : rv = none) (e2 : G2 = mk X ad (f_X8_tells_100 ev b ω)), GV p_ l_ e_ rm_X8_tells s_ m_ args_ below_ meth_ c_ 0 0 (CQ below_ args_ s_ D 128 ad G0 rv G2) D (va_A (gw 128 ad G0) s_.heap.size) 4 128 ad (mk X ad ω) [(0, .ref (ad 120)), (1, .int (nI (ev))), (2, .int b)] 100 [] := by
  have iX8 : ∀ w ∈ u_ws RX8 TX8 14, w ∈ wsX8_tells := by decide +kernel
  have L7 : Cond.fieldLink RX8 7 (TX8 1).1 (TX8 1).2.1 (TX8 1).2.2.1 ∈ wsX8_tells := by decide +kernel
  intro ω hmi rv G2 e1 e2
  refine g_aload_n C dX8_tells_100 rfl 0 rfl ?_
  refine g_get (v := .ref (ad 121)) C iX8 (by decide) (mk_11 (by decide)) rfl 1 (by decide) L7 rfl dX8_tells_101 ?_
  refine g_bipush (v := 12) C dX8_tells_104 (by decide) ?_
  refine g_dup2 C dX8_tells_106 rfl rfl ?_
  refine g_iald (k := 12) C 0 (by decide) (mk_12n (N := 108) (by decide) (by decide)) rfl (by unfold vp_in; decide) rfl dX8_tells_107 ?_
  refine g_iconst (v := 1) C dX8_tells_108 (by decide) ?_
  refine g_iadd (v := ((ω 121 12) + 1)) C dX8_tells_109 rfl ?_
  refine g_iast (k := 12) C 0 (by decide) (mk_12n (N := 108) (by decide) (by decide)) rfl (by unfold vp_in; decide) rfl dX8_tells_110 ?_
  refine gv_eqG (mk_row (N := 108) (by decide) (by decide)) ?_
  refine g_aload_n C dX8_tells_111 rfl 0 rfl ?_
  refine g_get (v := .ref (ad 121)) C iX8 (by decide) (mk_11 (by decide)) rfl 1 (by decide) L7 rfl dX8_tells_112 ?_
  refine g_bipush (v := 8) C dX8_tells_115 (by decide) ?_
  refine g_iload_n C dX8_tells_117 rfl 1 rfl ?_
  refine g_iadd (v := (nI (8 + ev))) C dX8_tells_118 (nI_add (8) (ev)) ?_
  refine g_dup2 C dX8_tells_119 rfl rfl ?_
  refine g_iald (k := 8 + ev) C 0 (by decide) (mk_12n (N := 108) (by decide) (by decide)) rfl (vp_in_nI (n := 8 + ev) (by omega) (by decide)) (nI_clamp (n := 8 + ev) (by omega)) dX8_tells_120 ?_
  refine g_iconst (v := 1) C dX8_tells_121 (by decide) ?_
  refine g_iadd (v := (((st ω 121 12 ((ω 121 12) + 1)) 121 (8 + ev)) + 1)) C dX8_tells_122 rfl ?_
  refine g_iast (k := 8 + ev) C 0 (by decide) (mk_12n (N := 108) (by decide) (by decide)) rfl (vp_in_nI (n := 8 + ev) (by omega) (by decide)) (nI_clamp (n := 8 + ev) (by omega)) dX8_tells_123 ?_
  refine gv_eqG (mk_row (N := 108) (by decide) (by decide)) ?_
  exact g_vret C hret hlk e1 (e2.trans (congrArg (mk X ad) rfl)) dX8_tells_124
theorem mi_X8_tells_100 (ev : Nat) (b : Int32) (hev : ev < 4) : ∀  (ω : Mem) (hmi : MIn 9 ω), MIn 10 (f_X8_tells_100 ev b ω) := by
  intro ω hmi
  unfold f_X8_tells_100
  have hz1 := hmi.1.2; have hz2 := hmi.2.1.2; have hz3 := hmi.2.2.2
  exact (MIn_s (MIn_12 hmi (rg_inc hmi.1 (by decide))) (by omega) (by omega))
def f_X8_tells_57 (ev : Nat) (b : Int32) (ω : Mem) : Mem := (f_X8_tells_100 ev b (st (st (st ω 121 (13 + 3 * ((ω 121 12).toNatClampNeg)) (nI (ev))) 121 (13 + 3 * ((ω 121 12).toNatClampNeg) + 1) b) 121 (13 + 3 * ((ω 121 12).toNatClampNeg) + 2) ((st (st ω 121 (13 + 3 * ((ω 121 12).toNatClampNeg)) (nI (ev))) 121 (13 + 3 * ((ω 121 12).toNatClampNeg) + 1) b) 121 4)))
set_option maxRecDepth 100000 in
set_option maxHeartbeats 4000000 in
theorem k_X8_tells_57 {l_ : Launch} {p_ : Program} {e_ : Env} {s_ : State} {m_ : MethodId} {args_ : Array Value} {below_ : List Frame} {meth_ : Method} {c_ : Code} {sa : Nat → Nat} {D : va_G} {X : Nat → ClassId} {ad : Nat → Nat} {G0 : Nat → va_E} (ev : Nat) (b : Int32) (hev : ev < 4) (C : GC p_ rm_X8_tells s_ m_ args_ meth_ c_ cX8_tells 4 wsX8_tells RX8 sa D (tyX X) (va_A (gw 128 ad G0) s_.heap.size)) (hret : meth_.sig.returnType = none) (hlk : meth_.locks = false) : ∀  (ω : Mem) (hmi : MIn 9 ω) (rv : Option Value) (G2 : Nat → va_E) (e1 : rv = none) (e2 : G2 = mk X ad (f_X8_tells_57 ev b ω)), GV p_ l_ e_ rm_X8_tells s_ m_ args_ below_ meth_ c_ 0 0 (CQ below_ args_ s_ D 128 ad G0 rv G2) D (va_A (gw 128 ad G0) s_.heap.size) 4 128 ad (mk X ad ω) [(0, .ref (ad 120)), (1, .int (nI (ev))), (2, .int b)] 57 [] := by
  have iX8 : ∀ w ∈ u_ws RX8 TX8 14, w ∈ wsX8_tells := by decide +kernel
  have L7 : Cond.fieldLink RX8 7 (TX8 1).1 (TX8 1).2.1 (TX8 1).2.2.1 ∈ wsX8_tells := by decide +kernel
  intro ω hmi rv G2 e1 e2
  refine g_bipush (v := 13) C dX8_tells_57 (by decide) ?_
  refine g_iconst (v := 3) C dX8_tells_59 (by decide) ?_
  refine g_aload_n C dX8_tells_60 rfl 0 rfl ?_
  refine g_get (v := .ref (ad 121)) C iX8 (by decide) (mk_11 (by decide)) rfl 1 (by decide) L7 rfl dX8_tells_61 ?_
  refine g_bipush (v := 12) C dX8_tells_64 (by decide) ?_
  refine g_iald (k := 12) C 0 (by decide) (mk_12n (N := 108) (by decide) (by decide)) rfl (by unfold vp_in; decide) rfl dX8_tells_66 ?_
  have hz1 : (ω 121 12).toNatClampNeg ≤ _ := (hmi.1).2
  refine gv_eqS (st' := [.int (nI ((ω 121 12).toNatClampNeg)), .int 3, .int 13]) (congrArg (fun z : Int32 => ([Value.int z, .int 3, .int 13] : List Value)) (hmi.1).1) ?_
  refine g_imul (v := (nI (3 * ((ω 121 12).toNatClampNeg)))) C dX8_tells_67 (pk_mul (3) ((ω 121 12).toNatClampNeg)) ?_
  refine g_iadd (v := (nI (13 + 3 * ((ω 121 12).toNatClampNeg)))) C dX8_tells_68 (nI_add (13) (3 * ((ω 121 12).toNatClampNeg))) ?_
  refine g_istore_n (lv' := [(3, .int (nI (13 + 3 * ((ω 121 12).toNatClampNeg)))), (0, .ref (ad 120)), (1, .int (nI (ev))), (2, .int b)]) C dX8_tells_69 rfl (by decide) rfl ?_
  refine g_aload_n C dX8_tells_70 rfl 1 rfl ?_
  refine g_get (v := .ref (ad 121)) C iX8 (by decide) (mk_11 (by decide)) rfl 1 (by decide) L7 rfl dX8_tells_71 ?_
  refine g_iload_n C dX8_tells_74 rfl 0 rfl ?_
  refine g_iload_n C dX8_tells_75 rfl 2 rfl ?_
  refine g_iast (k := 13 + 3 * ((ω 121 12).toNatClampNeg)) C 0 (by decide) (mk_12n (N := 108) (by decide) (by decide)) rfl (vp_in_nI (n := 13 + 3 * ((ω 121 12).toNatClampNeg)) (by omega) (by decide)) (nI_clamp (n := 13 + 3 * ((ω 121 12).toNatClampNeg)) (by omega)) dX8_tells_76 ?_
  refine gv_eqG (mk_row (N := 108) (by decide) (by decide)) ?_
  refine g_aload_n C dX8_tells_77 rfl 1 rfl ?_
  refine g_get (v := .ref (ad 121)) C iX8 (by decide) (mk_11 (by decide)) rfl 1 (by decide) L7 rfl dX8_tells_78 ?_
  refine g_iload_n C dX8_tells_81 rfl 0 rfl ?_
  refine g_iconst (v := 1) C dX8_tells_82 (by decide) ?_
  refine g_iadd (v := (nI (13 + 3 * ((ω 121 12).toNatClampNeg) + 1))) C dX8_tells_83 (nI_add (13 + 3 * ((ω 121 12).toNatClampNeg)) (1)) ?_
  refine g_iload_n C dX8_tells_84 rfl 3 rfl ?_
  refine g_iast (k := 13 + 3 * ((ω 121 12).toNatClampNeg) + 1) C 0 (by decide) (mk_12n (N := 108) (by decide) (by decide)) rfl (vp_in_nI (n := 13 + 3 * ((ω 121 12).toNatClampNeg) + 1) (by omega) (by decide)) (nI_clamp (n := 13 + 3 * ((ω 121 12).toNatClampNeg) + 1) (by omega)) dX8_tells_85 ?_
  refine gv_eqG (mk_row (N := 108) (by decide) (by decide)) ?_
  refine g_aload_n C dX8_tells_86 rfl 1 rfl ?_
  refine g_get (v := .ref (ad 121)) C iX8 (by decide) (mk_11 (by decide)) rfl 1 (by decide) L7 rfl dX8_tells_87 ?_
  refine g_iload_n C dX8_tells_90 rfl 0 rfl ?_
  refine g_iconst (v := 2) C dX8_tells_91 (by decide) ?_
  refine g_iadd (v := (nI (13 + 3 * ((ω 121 12).toNatClampNeg) + 2))) C dX8_tells_92 (nI_add (13 + 3 * ((ω 121 12).toNatClampNeg)) (2)) ?_
  refine g_aload_n C dX8_tells_93 rfl 1 rfl ?_
  refine g_get (v := .ref (ad 121)) C iX8 (by decide) (mk_11 (by decide)) rfl 1 (by decide) L7 rfl dX8_tells_94 ?_
  refine g_iconst (v := 4) C dX8_tells_97 (by decide) ?_
  refine g_iald (k := 4) C 0 (by decide) (mk_12n (N := 108) (by decide) (by decide)) rfl (by unfold vp_in; decide) rfl dX8_tells_98 ?_
  refine g_iast (k := 13 + 3 * ((ω 121 12).toNatClampNeg) + 2) C 0 (by decide) (mk_12n (N := 108) (by decide) (by decide)) rfl (vp_in_nI (n := 13 + 3 * ((ω 121 12).toNatClampNeg) + 2) (by omega) (by decide)) (nI_clamp (n := 13 + 3 * ((ω 121 12).toNatClampNeg) + 2) (by omega)) dX8_tells_99 ?_
  refine gv_eqG (mk_row (N := 108) (by decide) (by decide)) ?_
  refine gv_lv (lv' := [(0, .ref (ad 120)), (1, .int (nI (ev))), (2, .int b)]) [1, 2, 3] rfl ?_
  exact k_X8_tells_100 ev b hev C hret hlk  (st (st (st ω 121 (13 + 3 * ((ω 121 12).toNatClampNeg)) (nI (ev))) 121 (13 + 3 * ((ω 121 12).toNatClampNeg) + 1) b) 121 (13 + 3 * ((ω 121 12).toNatClampNeg) + 2) ((st (st ω 121 (13 + 3 * ((ω 121 12).toNatClampNeg)) (nI (ev))) 121 (13 + 3 * ((ω 121 12).toNatClampNeg) + 1) b) 121 4)) (MIn_s (MIn_s (MIn_s hmi (by omega) (by omega)) (by omega) (by omega)) (by omega) (by omega)) _ _ e1 (e2.trans (congrArg (mk X ad) rfl))
theorem mi_X8_tells_57 (ev : Nat) (b : Int32) (hev : ev < 4) : ∀  (ω : Mem) (hmi : MIn 9 ω), MIn 10 (f_X8_tells_57 ev b ω) := by
  intro ω hmi
  unfold f_X8_tells_57
  have hz1 := hmi.1.2; have hz2 := hmi.2.1.2; have hz3 := hmi.2.2.2
  exact mi_X8_tells_100 ev b hev  (st (st (st ω 121 (13 + 3 * ((ω 121 12).toNatClampNeg)) (nI (ev))) 121 (13 + 3 * ((ω 121 12).toNatClampNeg) + 1) b) 121 (13 + 3 * ((ω 121 12).toNatClampNeg) + 2) ((st (st ω 121 (13 + 3 * ((ω 121 12).toNatClampNeg)) (nI (ev))) 121 (13 + 3 * ((ω 121 12).toNatClampNeg) + 1) b) 121 4)) (MIn_s (MIn_s (MIn_s hmi (by omega) (by omega)) (by omega) (by omega)) (by omega) (by omega))
def f_X8_tells_14 : Nat → Nat → Int32 → Nat → Mem → Mem
  | 0, _, _, _, ω => ω
  | fu + 1, ev, b, j, ω => (if 27 ≤ j then (f_X8_tells_57 ev b (st ω 121 12 ((ω 121 12) - 1))) else (f_X8_tells_14 fu ev b (j + 1) (st ω 121 (13 + j) (ω 121 (13 + j + 3)))))
set_option maxRecDepth 100000 in
set_option maxHeartbeats 4000000 in
theorem k_X8_tells_14 {l_ : Launch} {p_ : Program} {e_ : Env} {s_ : State} {m_ : MethodId} {args_ : Array Value} {below_ : List Frame} {meth_ : Method} {c_ : Code} {sa : Nat → Nat} {D : va_G} {X : Nat → ClassId} {ad : Nat → Nat} {G0 : Nat → va_E} (fu : Nat) (ev : Nat) (b : Int32) (hev : ev < 4) (C : GC p_ rm_X8_tells s_ m_ args_ meth_ c_ cX8_tells 4 wsX8_tells RX8 sa D (tyX X) (va_A (gw 128 ad G0) s_.heap.size)) (hret : meth_.sig.returnType = none) (hlk : meth_.locks = false) : ∀ (j : Nat) (ω : Mem) (hmi : MIn 10 ω) (h10 : ω 121 12 = 10) (hj : j ≤ 27) (hfuel : 27 < j + fu) (rv : Option Value) (G2 : Nat → va_E) (e1 : rv = none) (e2 : G2 = mk X ad (f_X8_tells_14 fu ev b j ω)), GV p_ l_ e_ rm_X8_tells s_ m_ args_ below_ meth_ c_ 0 0 (CQ below_ args_ s_ D 128 ad G0 rv G2) D (va_A (gw 128 ad G0) s_.heap.size) 4 128 ad (mk X ad ω) [(0, .ref (ad 120)), (1, .int (nI (ev))), (2, .int b), (3, .int (nI (j)))] 14 [] := by
  have iX8 : ∀ w ∈ u_ws RX8 TX8 14, w ∈ wsX8_tells := by decide +kernel
  have L7 : Cond.fieldLink RX8 7 (TX8 1).1 (TX8 1).2.1 (TX8 1).2.2.1 ∈ wsX8_tells := by decide +kernel
  induction fu with
  | zero =>
    intro j ω hmi h10 hj hfuel rv G2 e1 e2
    exact absurd hfuel (by omega)
  | succ fu ih =>
    intro j ω hmi h10 hj hfuel rv G2 e1 e2
    refine g_iload_n C dX8_tells_14 rfl 3 rfl ?_
    refine g_bipush (v := 27) C dX8_tells_15 (by decide) ?_
    refine g_icmp_ge (tgt := 46) C dX8_tells_17 (by decide) (fun h1 => ?_) (fun h1 => ?_)
    · have h1n := (nI_leI (a := 27) (b := j) (by omega) (by omega)).mp h1
      refine g_aload_n C dX8_tells_46 rfl 0 rfl ?_
      refine g_get (v := .ref (ad 121)) C iX8 (by decide) (mk_11 (by decide)) rfl 1 (by decide) L7 rfl dX8_tells_47 ?_
      refine g_bipush (v := 12) C dX8_tells_50 (by decide) ?_
      refine g_dup2 C dX8_tells_52 rfl rfl ?_
      refine g_iald (k := 12) C 0 (by decide) (mk_12n (N := 108) (by decide) (by decide)) rfl (by unfold vp_in; decide) rfl dX8_tells_53 ?_
      refine g_iconst (v := 1) C dX8_tells_54 (by decide) ?_
      refine g_isub (v := ((ω 121 12) - 1)) C dX8_tells_55 rfl ?_
      refine g_iast (k := 12) C 0 (by decide) (mk_12n (N := 108) (by decide) (by decide)) rfl (by unfold vp_in; decide) rfl dX8_tells_56 ?_
      refine gv_eqG (mk_row (N := 108) (by decide) (by decide)) ?_
      refine gv_lv (lv' := [(0, .ref (ad 120)), (1, .int (nI (ev))), (2, .int b)]) [0, 1, 2] rfl ?_
      exact k_X8_tells_57 ev b hev C hret hlk  (st ω 121 12 ((ω 121 12) - 1)) (MIn_12 hmi (rg_10 h10)) _ _ e1 (e2.trans (congrArg (mk X ad) ((if_pos h1n).trans rfl)))
    · have h1n := (not_congr (nI_leI (a := 27) (b := j) (by omega) (by omega))).mp h1
      refine g_aload_n C dX8_tells_20 rfl 0 rfl ?_
      refine g_get (v := .ref (ad 121)) C iX8 (by decide) (mk_11 (by decide)) rfl 1 (by decide) L7 rfl dX8_tells_21 ?_
      refine g_bipush (v := 13) C dX8_tells_24 (by decide) ?_
      refine g_iload_n C dX8_tells_26 rfl 3 rfl ?_
      refine g_iadd (v := (nI (13 + j))) C dX8_tells_27 (nI_add (13) (j)) ?_
      refine g_aload_n C dX8_tells_28 rfl 0 rfl ?_
      refine g_get (v := .ref (ad 121)) C iX8 (by decide) (mk_11 (by decide)) rfl 1 (by decide) L7 rfl dX8_tells_29 ?_
      refine g_bipush (v := 13) C dX8_tells_32 (by decide) ?_
      refine g_iload_n C dX8_tells_34 rfl 3 rfl ?_
      refine g_iadd (v := (nI (13 + j))) C dX8_tells_35 (nI_add (13) (j)) ?_
      refine g_iconst (v := 3) C dX8_tells_36 (by decide) ?_
      refine g_iadd (v := (nI (13 + j + 3))) C dX8_tells_37 (nI_add (13 + j) (3)) ?_
      refine g_iald (k := 13 + j + 3) C 0 (by decide) (mk_12n (N := 108) (by decide) (by decide)) rfl (vp_in_nI (n := 13 + j + 3) (by omega) (by decide)) (nI_clamp (n := 13 + j + 3) (by omega)) dX8_tells_38 ?_
      refine g_iast (k := 13 + j) C 0 (by decide) (mk_12n (N := 108) (by decide) (by decide)) rfl (vp_in_nI (n := 13 + j) (by omega) (by decide)) (nI_clamp (n := 13 + j) (by omega)) dX8_tells_39 ?_
      refine gv_eqG (mk_row (N := 108) (by decide) (by decide)) ?_
      refine g_iinc (k := 3) (v := (nI (j + 1))) (lv' := [(3, .int (nI (j + 1))), (0, .ref (ad 120)), (1, .int (nI (ev))), (2, .int b)]) C dX8_tells_40 rfl (nI_1 (j)) (by decide) rfl ?_
      refine g_goto (tgt := 14) C dX8_tells_43 (by decide) ?_
      refine gv_lv (lv' := [(0, .ref (ad 120)), (1, .int (nI (ev))), (2, .int b), (3, .int (nI (j + 1)))]) [1, 2, 3, 0] rfl ?_
      exact ih (j + 1) (st ω 121 (13 + j) (ω 121 (13 + j + 3))) (MIn_s hmi (by omega) (by omega)) (by rw [st_ne (by omega)]; exact h10) (by omega) (by omega) _ _ e1 (e2.trans (congrArg (mk X ad) ((if_neg h1n).trans rfl)))
theorem mi_X8_tells_14 (ev : Nat) (b : Int32) (hev : ev < 4) : ∀ (fu : Nat) (j : Nat) (ω : Mem) (hmi : MIn 10 ω) (h10 : ω 121 12 = 10) (hj : j ≤ 27) (hfuel : 27 < j + fu), MIn 10 (f_X8_tells_14 fu ev b j ω) := by
  intro fu
  induction fu with
  | zero =>
    intro j ω hmi h10 hj hfuel
    exact absurd hfuel (by omega)
  | succ fu ih =>
    intro j ω hmi h10 hj hfuel
    unfold f_X8_tells_14
    have hz1 := hmi.1.2; have hz2 := hmi.2.1.2; have hz3 := hmi.2.2.2
    by_cases h1n : 27 ≤ j
    · rw [if_pos h1n]
      exact mi_X8_tells_57 ev b hev  (st ω 121 12 ((ω 121 12) - 1)) (MIn_12 hmi (rg_10 h10))
    · rw [if_neg h1n]
      exact ih (j + 1) (st ω 121 (13 + j) (ω 121 (13 + j + 3))) (MIn_s hmi (by omega) (by omega)) (by rw [st_ne (by omega)]; exact h10) (by omega) (by omega)
def f_X8_tells (ev : Nat) (b : Int32) (ω : Mem) : Mem := (if (ω 121 12) = 10 then (f_X8_tells_14 28 ev b 0 ω) else (f_X8_tells_57 ev b ω))
theorem mi_X8_tells (ev : Nat) (b : Int32) (hev : ev < 4) (ω : Mem) (hmi : MIn 10 ω) : MIn 10 (f_X8_tells ev b ω) := by
  unfold f_X8_tells
  have hz1 := hmi.1.2; have hz2 := hmi.2.1.2; have hz3 := hmi.2.2.2
  by_cases h1 : (ω 121 12) = 10
  · rw [if_pos h1]
    exact mi_X8_tells_14 ev b hev (28) 0 ω hmi h1 (by omega) (by omega)
  · rw [if_neg h1]
    exact mi_X8_tells_57 ev b hev  ω (MIn_9 hmi h1)
set_option maxRecDepth 100000 in
set_option maxHeartbeats 4000000 in
theorem c_X8_tells {l_ : Launch} {sa : Nat → Nat} {D : va_G} {X : Nat → ClassId} {ad : Nat → Nat} (ev : Nat) (b : Int32) (hev : ev < 4) (ω : Mem) (hmi : MIn 10 ω) : CT l_ yX8_tells wsX8_tells rm_X8_tells sa D (tyX X) 128 ad (mk X ad ω) [.ref (ad 120), .int (nI (ev)), .int b] (none : Option Value) (mk X ad (f_X8_tells ev b ω)) := by
  refine ct_of [(0, .ref (ad 120)), (1, .int (nI (ev))), (2, .int b)] (by decide +kernel) rfl rfl (Nat.le_of_ble_eq_true rfl) rfl ?_
  intro p_ e_ s_ m_ args_ below_ meth_ c_ C hret hlk hin
  have e1 : (none : Option Value) = (none : Option Value) := rfl
  have e2 : mk X ad (f_X8_tells ev b ω) = mk X ad (f_X8_tells ev b ω) := rfl
  have iX8 : ∀ w ∈ u_ws RX8 TX8 14, w ∈ wsX8_tells := by decide +kernel
  have L7 : Cond.fieldLink RX8 7 (TX8 1).1 (TX8 1).2.1 (TX8 1).2.2.1 ∈ wsX8_tells := by decide +kernel
  refine g_aload_n C dX8_tells_0 rfl 0 rfl ?_
  refine g_get (v := .ref (ad 121)) C iX8 (by decide) (mk_11 (by decide)) rfl 1 (by decide) L7 rfl dX8_tells_1 ?_
  refine g_bipush (v := 12) C dX8_tells_4 (by decide) ?_
  refine g_iald (k := 12) C 0 (by decide) (mk_12n (N := 108) (by decide) (by decide)) rfl (by unfold vp_in; decide) rfl dX8_tells_6 ?_
  refine g_bipush (v := 10) C dX8_tells_7 (by decide) ?_
  refine g_icmp_ne (tgt := 57) C dX8_tells_9 (by decide) (fun h1 => ?_) (fun h1 => ?_)
  · exact k_X8_tells_57 ev b hev C hret hlk  ω (MIn_9 hmi h1) _ _ e1 (e2.trans (congrArg (mk X ad) ((if_neg h1).trans rfl)))
  · refine g_iconst (v := 0) C dX8_tells_12 (by decide) ?_
    refine g_istore_n (lv' := [(3, .int 0), (0, .ref (ad 120)), (1, .int (nI (ev))), (2, .int b)]) C dX8_tells_13 rfl (by decide) rfl ?_
    refine gv_lv (lv' := [(0, .ref (ad 120)), (1, .int (nI (ev))), (2, .int b), (3, .int 0)]) [1, 2, 3, 0] rfl ?_
    exact k_X8_tells_14 (28) ev b hev C hret hlk 0 ω hmi h1 (by omega) (by omega) _ _ e1 (e2.trans (congrArg (mk X ad) ((if_pos h1).trans rfl)))
abbrev rm_X8_sparks : Room := { frames := 3, cells := 0, slots := 0, locals := 65 }
theorem md_X8_sparks : yX8_sparks.cls = RX8 ∧ yX8_sparks.cls ≠ "java/lang/invoke/MethodHandle" ∧ yX8_sparks.cls ≠ "java/lang/invoke/VarHandle" ∧ (parseMethodDescriptor yX8_sparks.desc).map (fun d => d.parameters.length) = some 2 := by decide +kernel
def f_X8_sparks_73 (k : Nat) (d : Int32) (ω : Mem) : Mem := (f_X8_tells 3 (nI (k)) ω)
set_option maxRecDepth 100000 in
set_option maxHeartbeats 4000000 in
theorem k_X8_sparks_73 {l_ : Launch} {p_ : Program} {e_ : Env} {s_ : State} {m_ : MethodId} {args_ : Array Value} {below_ : List Frame} {meth_ : Method} {c_ : Code} {sa : Nat → Nat} {D : va_G} {X : Nat → ClassId} {ad : Nat → Nat} {G0 : Nat → va_E} (k : Nat) (d : Int32) (hk : k < 4) (C : GC p_ rm_X8_sparks s_ m_ args_ meth_ c_ cX8_sparks 3 wsX8_sparks RX8 sa D (tyX X) (va_A (gw 128 ad G0) s_.heap.size)) (hret : meth_.sig.returnType = none) (hlk : meth_.locks = false) : ∀  (ω : Mem) (hmi : MIn 10 ω) (rv : Option Value) (G2 : Nat → va_E) (e1 : rv = none) (e2 : G2 = mk X ad (f_X8_sparks_73 k d ω)), GV p_ l_ e_ rm_X8_sparks s_ m_ args_ below_ meth_ c_ 0 0 (CQ below_ args_ s_ D 128 ad G0 rv G2) D (va_A (gw 128 ad G0) s_.heap.size) 3 128 ad (mk X ad ω) [(0, .ref (ad 120)), (1, .int (nI (k))), (2, .int d)] 73 [] := by
  intro ω hmi rv G2 e1 e2
  refine g_aload_n C dX8_sparks_73 rfl 0 rfl ?_
  refine g_iconst (v := 3) C dX8_sparks_74 (by decide) ?_
  refine g_iload_n C dX8_sparks_75 rfl 1 rfl ?_
  refine g_callV (rest := []) (st1 := []) C (c_X8_tells 3 (nI (k)) (by omega) ω hmi) (cwV 2 C.hts gX8_sparks_X8_tells rfl rfl rfl md_X8_tells ⟨Nat.le_of_ble_eq_true rfl, Nat.le_of_ble_eq_true rfl⟩) (by decide) (mk_11 (by decide)) rfl rfl rfl rfl rfl (Nat.le_of_ble_eq_true rfl) dX8_sparks_76 (Nat.zero_le _) (Nat.zero_le _) ?_
  exact g_vret C hret hlk e1 (e2.trans (congrArg (mk X ad) rfl)) dX8_sparks_79
theorem mi_X8_sparks_73 (k : Nat) (d : Int32) (hk : k < 4) : ∀  (ω : Mem) (hmi : MIn 10 ω), MIn 10 (f_X8_sparks_73 k d ω) := by
  intro ω hmi
  unfold f_X8_sparks_73
  have hz1 := hmi.1.2; have hz2 := hmi.2.1.2; have hz3 := hmi.2.2.2
  exact (mi_X8_tells 3 (nI (k)) (by omega) ω hmi)
def f_X8_sparks_40 (k : Nat) (d : Int32) (ω : Mem) : Mem := (f_X8_tells 0 (nI (k)) ω)
set_option maxRecDepth 100000 in
set_option maxHeartbeats 4000000 in
theorem k_X8_sparks_40 {l_ : Launch} {p_ : Program} {e_ : Env} {s_ : State} {m_ : MethodId} {args_ : Array Value} {below_ : List Frame} {meth_ : Method} {c_ : Code} {sa : Nat → Nat} {D : va_G} {X : Nat → ClassId} {ad : Nat → Nat} {G0 : Nat → va_E} (k : Nat) (d : Int32) (hk : k < 4) (C : GC p_ rm_X8_sparks s_ m_ args_ meth_ c_ cX8_sparks 3 wsX8_sparks RX8 sa D (tyX X) (va_A (gw 128 ad G0) s_.heap.size)) (hret : meth_.sig.returnType = none) (hlk : meth_.locks = false) : ∀  (ω : Mem) (hmi : MIn 10 ω) (rv : Option Value) (G2 : Nat → va_E) (e1 : rv = none) (e2 : G2 = mk X ad (f_X8_sparks_40 k d ω)), GV p_ l_ e_ rm_X8_sparks s_ m_ args_ below_ meth_ c_ 0 0 (CQ below_ args_ s_ D 128 ad G0 rv G2) D (va_A (gw 128 ad G0) s_.heap.size) 3 128 ad (mk X ad ω) [(0, .ref (ad 120)), (1, .int (nI (k))), (2, .int d)] 40 [] := by
  intro ω hmi rv G2 e1 e2
  refine g_aload_n C dX8_sparks_40 rfl 0 rfl ?_
  refine g_iconst (v := 0) C dX8_sparks_41 (by decide) ?_
  refine g_iload_n C dX8_sparks_42 rfl 1 rfl ?_
  refine g_callV (rest := []) (st1 := []) C (c_X8_tells 0 (nI (k)) (by omega) ω hmi) (cwV 2 C.hts gX8_sparks_X8_tells rfl rfl rfl md_X8_tells ⟨Nat.le_of_ble_eq_true rfl, Nat.le_of_ble_eq_true rfl⟩) (by decide) (mk_11 (by decide)) rfl rfl rfl rfl rfl (Nat.le_of_ble_eq_true rfl) dX8_sparks_43 (Nat.zero_le _) (Nat.zero_le _) ?_
  refine g_goto (tgt := 79) C dX8_sparks_46 (by decide) ?_
  exact g_vret C hret hlk e1 (e2.trans (congrArg (mk X ad) rfl)) dX8_sparks_79
theorem mi_X8_sparks_40 (k : Nat) (d : Int32) (hk : k < 4) : ∀  (ω : Mem) (hmi : MIn 10 ω), MIn 10 (f_X8_sparks_40 k d ω) := by
  intro ω hmi
  unfold f_X8_sparks_40
  have hz1 := hmi.1.2; have hz2 := hmi.2.1.2; have hz3 := hmi.2.2.2
  exact (mi_X8_tells 0 (nI (k)) (by omega) ω hmi)
def f_X8_sparks_16 (k : Nat) (d : Int32) (ω : Mem) : Mem := (if (f_X8_strength k ω) < d then (if (f_X8_get k 7 ω) < (ω 121 1) then ω else (f_X8_sparks_73 k d (f_X8_lay k 6 1 ω))) else (f_X8_sparks_40 k d (f_X8_lay k 7 0 (f_X8_lay k 4 1 ω))))
set_option maxRecDepth 100000 in
set_option maxHeartbeats 4000000 in
theorem k_X8_sparks_16 {l_ : Launch} {p_ : Program} {e_ : Env} {s_ : State} {m_ : MethodId} {args_ : Array Value} {below_ : List Frame} {meth_ : Method} {c_ : Code} {sa : Nat → Nat} {D : va_G} {X : Nat → ClassId} {ad : Nat → Nat} {G0 : Nat → va_E} (k : Nat) (d : Int32) (hk : k < 4) (C : GC p_ rm_X8_sparks s_ m_ args_ meth_ c_ cX8_sparks 3 wsX8_sparks RX8 sa D (tyX X) (va_A (gw 128 ad G0) s_.heap.size)) (hret : meth_.sig.returnType = none) (hlk : meth_.locks = false) : ∀  (ω : Mem) (hmi : MIn 10 ω) (rv : Option Value) (G2 : Nat → va_E) (e1 : rv = none) (e2 : G2 = mk X ad (f_X8_sparks_16 k d ω)), GV p_ l_ e_ rm_X8_sparks s_ m_ args_ below_ meth_ c_ 0 0 (CQ below_ args_ s_ D 128 ad G0 rv G2) D (va_A (gw 128 ad G0) s_.heap.size) 3 128 ad (mk X ad ω) [(0, .ref (ad 120)), (1, .int (nI (k))), (2, .int d)] 16 [] := by
  have iX8 : ∀ w ∈ u_ws RX8 TX8 14, w ∈ wsX8_sparks := by decide +kernel
  have L7 : Cond.fieldLink RX8 7 (TX8 1).1 (TX8 1).2.1 (TX8 1).2.2.1 ∈ wsX8_sparks := by decide +kernel
  intro ω hmi rv G2 e1 e2
  refine g_iload_n C dX8_sparks_16 rfl 2 rfl ?_
  refine g_aload_n C dX8_sparks_17 rfl 0 rfl ?_
  refine g_iload_n C dX8_sparks_18 rfl 1 rfl ?_
  refine g_callV (rest := [.int d]) (st1 := [.int (f_X8_strength k ω), .int d]) C (c_X8_strength k (by omega) ω) (cwV 1 C.hts gX8_sparks_X8_strength rfl rfl rfl md_X8_strength ⟨Nat.le_of_ble_eq_true rfl, Nat.le_of_ble_eq_true rfl⟩) (by decide) (mk_11 (by decide)) rfl rfl rfl rfl rfl (Nat.le_of_ble_eq_true rfl) dX8_sparks_19 (Nat.zero_le _) (Nat.zero_le _) ?_
  refine g_icmp_gt (tgt := 49) C dX8_sparks_22 (by decide) (fun h1 => ?_) (fun h1 => ?_)
  · refine g_aload_n C dX8_sparks_49 rfl 0 rfl ?_
    refine g_iload_n C dX8_sparks_50 rfl 1 rfl ?_
    refine g_bipush (v := 7) C dX8_sparks_51 (by decide) ?_
    refine g_callV (rest := []) (st1 := [.int (f_X8_get k 7 ω)]) C (c_X8_get k 7 (by omega) (by omega) ω) (cwV 2 C.hts gX8_sparks_X8_get rfl rfl rfl md_X8_get ⟨Nat.le_of_ble_eq_true rfl, Nat.le_of_ble_eq_true rfl⟩) (by decide) (mk_11 (by decide)) rfl rfl rfl rfl rfl (Nat.le_of_ble_eq_true rfl) dX8_sparks_53 (Nat.zero_le _) (Nat.zero_le _) ?_
    refine g_aload_n C dX8_sparks_56 rfl 0 rfl ?_
    refine g_get (v := .ref (ad 121)) C iX8 (by decide) (mk_11 (by decide)) rfl 1 (by decide) L7 rfl dX8_sparks_57 ?_
    refine g_iconst (v := 1) C dX8_sparks_60 (by decide) ?_
    refine g_iald (k := 1) C 0 (by decide) (mk_12n (N := 108) (by decide) (by decide)) rfl (by unfold vp_in; decide) rfl dX8_sparks_61 ?_
    refine g_icmp_lt (tgt := 79) C dX8_sparks_62 (by decide) (fun h2 => ?_) (fun h2 => ?_)
    · exact g_vret C hret hlk e1 (e2.trans (congrArg (mk X ad) ((if_pos h1).trans ((if_pos h2).trans rfl)))) dX8_sparks_79
    · refine g_aload_n C dX8_sparks_65 rfl 0 rfl ?_
      refine g_iload_n C dX8_sparks_66 rfl 1 rfl ?_
      refine g_bipush (v := 6) C dX8_sparks_67 (by decide) ?_
      refine g_iconst (v := 1) C dX8_sparks_69 (by decide) ?_
      refine g_callV (rest := []) (st1 := []) C (c_X8_lay k 6 1 (by omega) (by omega) ω hmi) (cwV 3 C.hts gX8_sparks_X8_lay rfl rfl rfl md_X8_lay ⟨Nat.le_of_ble_eq_true rfl, Nat.le_of_ble_eq_true rfl⟩) (by decide) (mk_11 (by decide)) rfl rfl rfl rfl rfl (Nat.le_of_ble_eq_true rfl) dX8_sparks_70 (Nat.zero_le _) (Nat.zero_le _) ?_
      exact k_X8_sparks_73 k d hk C hret hlk  (f_X8_lay k 6 1 ω) (mi_X8_lay k 6 1 (by omega) (by omega) ω hmi) _ _ e1 (e2.trans (congrArg (mk X ad) ((if_pos h1).trans ((if_neg h2).trans rfl))))
  · refine g_aload_n C dX8_sparks_25 rfl 0 rfl ?_
    refine g_iload_n C dX8_sparks_26 rfl 1 rfl ?_
    refine g_iconst (v := 4) C dX8_sparks_27 (by decide) ?_
    refine g_iconst (v := 1) C dX8_sparks_28 (by decide) ?_
    refine g_callV (rest := []) (st1 := []) C (c_X8_lay k 4 1 (by omega) (by omega) ω hmi) (cwV 3 C.hts gX8_sparks_X8_lay rfl rfl rfl md_X8_lay ⟨Nat.le_of_ble_eq_true rfl, Nat.le_of_ble_eq_true rfl⟩) (by decide) (mk_11 (by decide)) rfl rfl rfl rfl rfl (Nat.le_of_ble_eq_true rfl) dX8_sparks_29 (Nat.zero_le _) (Nat.zero_le _) ?_
    refine g_aload_n C dX8_sparks_32 rfl 0 rfl ?_
    refine g_iload_n C dX8_sparks_33 rfl 1 rfl ?_
    refine g_bipush (v := 7) C dX8_sparks_34 (by decide) ?_
    refine g_iconst (v := 0) C dX8_sparks_36 (by decide) ?_
    refine g_callV (rest := []) (st1 := []) C (c_X8_lay k 7 0 (by omega) (by omega) (f_X8_lay k 4 1 ω) (mi_X8_lay k 4 1 (by omega) (by omega) ω hmi)) (cwV 3 C.hts gX8_sparks_X8_lay rfl rfl rfl md_X8_lay ⟨Nat.le_of_ble_eq_true rfl, Nat.le_of_ble_eq_true rfl⟩) (by decide) (mk_11 (by decide)) rfl rfl rfl rfl rfl (Nat.le_of_ble_eq_true rfl) dX8_sparks_37 (Nat.zero_le _) (Nat.zero_le _) ?_
    exact k_X8_sparks_40 k d hk C hret hlk  (f_X8_lay k 7 0 (f_X8_lay k 4 1 ω)) (mi_X8_lay k 7 0 (by omega) (by omega) (f_X8_lay k 4 1 ω) (mi_X8_lay k 4 1 (by omega) (by omega) ω hmi)) _ _ e1 (e2.trans (congrArg (mk X ad) ((if_neg h1).trans rfl)))
theorem mi_X8_sparks_16 (k : Nat) (d : Int32) (hk : k < 4) : ∀  (ω : Mem) (hmi : MIn 10 ω), MIn 10 (f_X8_sparks_16 k d ω) := by
  intro ω hmi
  unfold f_X8_sparks_16
  have hz1 := hmi.1.2; have hz2 := hmi.2.1.2; have hz3 := hmi.2.2.2
  by_cases h1 : (f_X8_strength k ω) < d
  · rw [if_pos h1]
    by_cases h2 : (f_X8_get k 7 ω) < (ω 121 1)
    · rw [if_pos h2]
      exact hmi
    · rw [if_neg h2]
      exact mi_X8_sparks_73 k d hk  (f_X8_lay k 6 1 ω) (mi_X8_lay k 6 1 (by omega) (by omega) ω hmi)
  · rw [if_neg h1]
    exact mi_X8_sparks_40 k d hk  (f_X8_lay k 7 0 (f_X8_lay k 4 1 ω)) (mi_X8_lay k 7 0 (by omega) (by omega) (f_X8_lay k 4 1 ω) (mi_X8_lay k 4 1 (by omega) (by omega) ω hmi))
def f_X8_sparks (k : Nat) (d : Int32) (ω : Mem) : Mem := (f_X8_sparks_16 k d (f_X8_lay k 7 ((f_X8_get k 7 ω) + 1) ω))
theorem mi_X8_sparks (k : Nat) (d : Int32) (hk : k < 4) (ω : Mem) (hmi : MIn 10 ω) : MIn 10 (f_X8_sparks k d ω) := by
  unfold f_X8_sparks
  have hz1 := hmi.1.2; have hz2 := hmi.2.1.2; have hz3 := hmi.2.2.2
  exact mi_X8_sparks_16 k d hk  (f_X8_lay k 7 ((f_X8_get k 7 ω) + 1) ω) (mi_X8_lay k 7 ((f_X8_get k 7 ω) + 1) (by omega) (by omega) ω hmi)
set_option maxRecDepth 100000 in
set_option maxHeartbeats 4000000 in
theorem c_X8_sparks {l_ : Launch} {sa : Nat → Nat} {D : va_G} {X : Nat → ClassId} {ad : Nat → Nat} (k : Nat) (d : Int32) (hk : k < 4) (ω : Mem) (hmi : MIn 10 ω) : CT l_ yX8_sparks wsX8_sparks rm_X8_sparks sa D (tyX X) 128 ad (mk X ad ω) [.ref (ad 120), .int (nI (k)), .int d] (none : Option Value) (mk X ad (f_X8_sparks k d ω)) := by
  refine ct_of [(0, .ref (ad 120)), (1, .int (nI (k))), (2, .int d)] (by decide +kernel) rfl rfl (Nat.le_of_ble_eq_true rfl) rfl ?_
  intro p_ e_ s_ m_ args_ below_ meth_ c_ C hret hlk hin
  have e1 : (none : Option Value) = (none : Option Value) := rfl
  have e2 : mk X ad (f_X8_sparks k d ω) = mk X ad (f_X8_sparks k d ω) := rfl
  refine g_aload_n C dX8_sparks_0 rfl 0 rfl ?_
  refine g_iload_n C dX8_sparks_1 rfl 1 rfl ?_
  refine g_bipush (v := 7) C dX8_sparks_2 (by decide) ?_
  refine g_aload_n C dX8_sparks_4 rfl 0 rfl ?_
  refine g_iload_n C dX8_sparks_5 rfl 1 rfl ?_
  refine g_bipush (v := 7) C dX8_sparks_6 (by decide) ?_
  refine g_callV (rest := [.int 7, .int (nI (k)), .ref (ad 120)]) (st1 := [.int (f_X8_get k 7 ω), .int 7, .int (nI (k)), .ref (ad 120)]) C (c_X8_get k 7 (by omega) (by omega) ω) (cwV 2 C.hts gX8_sparks_X8_get rfl rfl rfl md_X8_get ⟨Nat.le_of_ble_eq_true rfl, Nat.le_of_ble_eq_true rfl⟩) (by decide) (mk_11 (by decide)) rfl rfl rfl rfl rfl (Nat.le_of_ble_eq_true rfl) dX8_sparks_8 (Nat.zero_le _) (Nat.zero_le _) ?_
  refine g_iconst (v := 1) C dX8_sparks_11 (by decide) ?_
  refine g_iadd (v := ((f_X8_get k 7 ω) + 1)) C dX8_sparks_12 rfl ?_
  refine g_callV (rest := []) (st1 := []) C (c_X8_lay k 7 ((f_X8_get k 7 ω) + 1) (by omega) (by omega) ω hmi) (cwV 3 C.hts gX8_sparks_X8_lay rfl rfl rfl md_X8_lay ⟨Nat.le_of_ble_eq_true rfl, Nat.le_of_ble_eq_true rfl⟩) (by decide) (mk_11 (by decide)) rfl rfl rfl rfl rfl (Nat.le_of_ble_eq_true rfl) dX8_sparks_13 (Nat.zero_le _) (Nat.zero_le _) ?_
  exact k_X8_sparks_16 k d hk C hret hlk  (f_X8_lay k 7 ((f_X8_get k 7 ω) + 1) ω) (mi_X8_lay k 7 ((f_X8_get k 7 ω) + 1) (by omega) (by omega) ω hmi) _ _ e1 (e2.trans (congrArg (mk X ad) rfl))
abbrev rm_X8_burns : Room := { frames := 4, cells := 0, slots := 0, locals := 87 }
theorem md_X8_burns : yX8_burns.cls = RX8 ∧ yX8_burns.cls ≠ "java/lang/invoke/MethodHandle" ∧ yX8_burns.cls ≠ "java/lang/invoke/VarHandle" ∧ (parseMethodDescriptor yX8_burns.desc).map (fun d => d.parameters.length) = some 3 := by decide +kernel
def f_X8_burns_333 (k : Nat) (d : Int32) (g : Int32) (v4 : Int32) (v5 : Int32) (v6 : Int32) (v7 : Int32) (v8 : Int32) (w0 : Int32) (ω : Mem) : Mem := (st ω 121 7 w0)
set_option maxRecDepth 100000 in
set_option maxHeartbeats 4000000 in
theorem k_X8_burns_333 {l_ : Launch} {p_ : Program} {e_ : Env} {s_ : State} {m_ : MethodId} {args_ : Array Value} {below_ : List Frame} {meth_ : Method} {c_ : Code} {sa : Nat → Nat} {D : va_G} {X : Nat → ClassId} {ad : Nat → Nat} {G0 : Nat → va_E} (k : Nat) (d : Int32) (g : Int32) (hk : k < 4) (C : GC p_ rm_X8_burns s_ m_ args_ meth_ c_ cX8_burns 9 wsX8_burns RX8 sa D (tyX X) (va_A (gw 128 ad G0) s_.heap.size)) (hret : meth_.sig.returnType = none) (hlk : meth_.locks = false) : ∀ (v4 : Int32) (v5 : Int32) (v6 : Int32) (v7 : Int32) (v8 : Int32) (w0 : Int32) (ω : Mem) (hmi : MIn 10 ω) (rv : Option Value) (G2 : Nat → va_E) (e1 : rv = none) (e2 : G2 = mk X ad (f_X8_burns_333 k d g v4 v5 v6 v7 v8 w0 ω)), GV p_ l_ e_ rm_X8_burns s_ m_ args_ below_ meth_ c_ 0 0 (CQ below_ args_ s_ D 128 ad G0 rv G2) D (va_A (gw 128 ad G0) s_.heap.size) 9 128 ad (mk X ad ω) [(0, .ref (ad 120)), (1, .int (nI (k))), (2, .int d), (3, .int g), (4, .int v4), (5, .int v5), (6, .int v6), (7, .int v7), (8, .int v8)] 333 [.int w0, .int 7, .ref (ad 121)] := by
  intro v4 v5 v6 v7 v8 w0 ω hmi rv G2 e1 e2
  refine g_iast (k := 7) C 0 (by decide) (mk_12n (N := 108) (by decide) (by decide)) rfl (by unfold vp_in; decide) rfl dX8_burns_333 ?_
  refine gv_eqG (mk_row (N := 108) (by decide) (by decide)) ?_
  exact g_vret C hret hlk e1 (e2.trans (congrArg (mk X ad) rfl)) dX8_burns_334
theorem mi_X8_burns_333 (k : Nat) (d : Int32) (g : Int32) (hk : k < 4) : ∀ (v4 : Int32) (v5 : Int32) (v6 : Int32) (v7 : Int32) (v8 : Int32) (w0 : Int32) (ω : Mem) (hmi : MIn 10 ω), MIn 10 (f_X8_burns_333 k d g v4 v5 v6 v7 v8 w0 ω) := by
  intro v4 v5 v6 v7 v8 w0 ω hmi
  unfold f_X8_burns_333
  have hz1 := hmi.1.2; have hz2 := hmi.2.1.2; have hz3 := hmi.2.2.2
  exact (MIn_s hmi (by omega) (by omega))
def f_X8_burns_293 (k : Nat) (d : Int32) (g : Int32) (v4 : Int32) (v5 : Int32) (v6 : Int32) (v7 : Int32) (v8 : Int32) (ω : Mem) : Mem := (if (f_X8_get k 8 ω) ≤ (ω 121 7) then (f_X8_burns_333 k d g v4 v5 v6 v7 v8 (ω 121 7) ω) else (f_X8_burns_333 k d g v4 v5 v6 v7 v8 (f_X8_get k 8 ω) ω))
set_option maxRecDepth 100000 in
set_option maxHeartbeats 4000000 in
theorem k_X8_burns_293 {l_ : Launch} {p_ : Program} {e_ : Env} {s_ : State} {m_ : MethodId} {args_ : Array Value} {below_ : List Frame} {meth_ : Method} {c_ : Code} {sa : Nat → Nat} {D : va_G} {X : Nat → ClassId} {ad : Nat → Nat} {G0 : Nat → va_E} (k : Nat) (d : Int32) (g : Int32) (hk : k < 4) (C : GC p_ rm_X8_burns s_ m_ args_ meth_ c_ cX8_burns 9 wsX8_burns RX8 sa D (tyX X) (va_A (gw 128 ad G0) s_.heap.size)) (hret : meth_.sig.returnType = none) (hlk : meth_.locks = false) : ∀ (v4 : Int32) (v5 : Int32) (v6 : Int32) (v7 : Int32) (v8 : Int32) (ω : Mem) (hmi : MIn 10 ω) (rv : Option Value) (G2 : Nat → va_E) (e1 : rv = none) (e2 : G2 = mk X ad (f_X8_burns_293 k d g v4 v5 v6 v7 v8 ω)), GV p_ l_ e_ rm_X8_burns s_ m_ args_ below_ meth_ c_ 0 0 (CQ below_ args_ s_ D 128 ad G0 rv G2) D (va_A (gw 128 ad G0) s_.heap.size) 9 128 ad (mk X ad ω) [(0, .ref (ad 120)), (1, .int (nI (k))), (2, .int d), (3, .int g), (4, .int v4), (5, .int v5), (6, .int v6), (7, .int v7), (8, .int v8)] 293 [] := by
  have iX8 : ∀ w ∈ u_ws RX8 TX8 14, w ∈ wsX8_burns := by decide +kernel
  have L7 : Cond.fieldLink RX8 7 (TX8 1).1 (TX8 1).2.1 (TX8 1).2.2.1 ∈ wsX8_burns := by decide +kernel
  intro v4 v5 v6 v7 v8 ω hmi rv G2 e1 e2
  refine g_aload_n C dX8_burns_293 rfl 0 rfl ?_
  refine g_get (v := .ref (ad 121)) C iX8 (by decide) (mk_11 (by decide)) rfl 1 (by decide) L7 rfl dX8_burns_294 ?_
  refine g_bipush (v := 7) C dX8_burns_297 (by decide) ?_
  refine g_aload_n C dX8_burns_299 rfl 0 rfl ?_
  refine g_iload_n C dX8_burns_300 rfl 1 rfl ?_
  refine g_bipush (v := 8) C dX8_burns_301 (by decide) ?_
  refine g_callV (rest := [.int 7, .ref (ad 121)]) (st1 := [.int (f_X8_get k 8 ω), .int 7, .ref (ad 121)]) C (c_X8_get k 8 (by omega) (by omega) ω) (cwV 2 C.hts gX8_burns_X8_get rfl rfl rfl md_X8_get ⟨Nat.le_of_ble_eq_true rfl, Nat.le_of_ble_eq_true rfl⟩) (by decide) (mk_11 (by decide)) rfl rfl rfl rfl rfl (Nat.le_of_ble_eq_true rfl) dX8_burns_303 (Nat.zero_le _) (Nat.zero_le _) ?_
  refine g_aload_n C dX8_burns_306 rfl 0 rfl ?_
  refine g_get (v := .ref (ad 121)) C iX8 (by decide) (mk_11 (by decide)) rfl 1 (by decide) L7 rfl dX8_burns_307 ?_
  refine g_bipush (v := 7) C dX8_burns_310 (by decide) ?_
  refine g_iald (k := 7) C 0 (by decide) (mk_12n (N := 108) (by decide) (by decide)) rfl (by unfold vp_in; decide) rfl dX8_burns_312 ?_
  refine g_icmp_le (tgt := 326) C dX8_burns_313 (by decide) (fun h1 => ?_) (fun h1 => ?_)
  · refine g_aload_n C dX8_burns_326 rfl 0 rfl ?_
    refine g_get (v := .ref (ad 121)) C iX8 (by decide) (mk_11 (by decide)) rfl 1 (by decide) L7 rfl dX8_burns_327 ?_
    refine g_bipush (v := 7) C dX8_burns_330 (by decide) ?_
    refine g_iald (k := 7) C 0 (by decide) (mk_12n (N := 108) (by decide) (by decide)) rfl (by unfold vp_in; decide) rfl dX8_burns_332 ?_
    exact k_X8_burns_333 k d g hk C hret hlk v4 v5 v6 v7 v8 (ω 121 7) ω hmi _ _ e1 (e2.trans (congrArg (mk X ad) ((if_pos h1).trans rfl)))
  · refine g_aload_n C dX8_burns_316 rfl 0 rfl ?_
    refine g_iload_n C dX8_burns_317 rfl 1 rfl ?_
    refine g_bipush (v := 8) C dX8_burns_318 (by decide) ?_
    refine g_callV (rest := [.int 7, .ref (ad 121)]) (st1 := [.int (f_X8_get k 8 ω), .int 7, .ref (ad 121)]) C (c_X8_get k 8 (by omega) (by omega) ω) (cwV 2 C.hts gX8_burns_X8_get rfl rfl rfl md_X8_get ⟨Nat.le_of_ble_eq_true rfl, Nat.le_of_ble_eq_true rfl⟩) (by decide) (mk_11 (by decide)) rfl rfl rfl rfl rfl (Nat.le_of_ble_eq_true rfl) dX8_burns_320 (Nat.zero_le _) (Nat.zero_le _) ?_
    refine g_goto (tgt := 333) C dX8_burns_323 (by decide) ?_
    exact k_X8_burns_333 k d g hk C hret hlk v4 v5 v6 v7 v8 (f_X8_get k 8 ω) ω hmi _ _ e1 (e2.trans (congrArg (mk X ad) ((if_neg h1).trans rfl)))
theorem mi_X8_burns_293 (k : Nat) (d : Int32) (g : Int32) (hk : k < 4) : ∀ (v4 : Int32) (v5 : Int32) (v6 : Int32) (v7 : Int32) (v8 : Int32) (ω : Mem) (hmi : MIn 10 ω), MIn 10 (f_X8_burns_293 k d g v4 v5 v6 v7 v8 ω) := by
  intro v4 v5 v6 v7 v8 ω hmi
  unfold f_X8_burns_293
  have hz1 := hmi.1.2; have hz2 := hmi.2.1.2; have hz3 := hmi.2.2.2
  by_cases h1 : (f_X8_get k 8 ω) ≤ (ω 121 7)
  · rw [if_pos h1]
    exact mi_X8_burns_333 k d g hk v4 v5 v6 v7 v8 (ω 121 7) ω hmi
  · rw [if_neg h1]
    exact mi_X8_burns_333 k d g hk v4 v5 v6 v7 v8 (f_X8_get k 8 ω) ω hmi
def f_X8_burns_290 (k : Nat) (d : Int32) (g : Int32) (v4 : Int32) (v5 : Int32) (v6 : Int32) (v7 : Int32) (v8 : Int32) (w0 : Int32) (ω : Mem) : Mem := (f_X8_burns_293 k d g v4 v5 v6 v7 v8 (f_X8_lay k 8 w0 ω))
set_option maxRecDepth 100000 in
set_option maxHeartbeats 4000000 in
theorem k_X8_burns_290 {l_ : Launch} {p_ : Program} {e_ : Env} {s_ : State} {m_ : MethodId} {args_ : Array Value} {below_ : List Frame} {meth_ : Method} {c_ : Code} {sa : Nat → Nat} {D : va_G} {X : Nat → ClassId} {ad : Nat → Nat} {G0 : Nat → va_E} (k : Nat) (d : Int32) (g : Int32) (hk : k < 4) (C : GC p_ rm_X8_burns s_ m_ args_ meth_ c_ cX8_burns 9 wsX8_burns RX8 sa D (tyX X) (va_A (gw 128 ad G0) s_.heap.size)) (hret : meth_.sig.returnType = none) (hlk : meth_.locks = false) : ∀ (v4 : Int32) (v5 : Int32) (v6 : Int32) (v7 : Int32) (v8 : Int32) (w0 : Int32) (ω : Mem) (hmi : MIn 10 ω) (rv : Option Value) (G2 : Nat → va_E) (e1 : rv = none) (e2 : G2 = mk X ad (f_X8_burns_290 k d g v4 v5 v6 v7 v8 w0 ω)), GV p_ l_ e_ rm_X8_burns s_ m_ args_ below_ meth_ c_ 0 0 (CQ below_ args_ s_ D 128 ad G0 rv G2) D (va_A (gw 128 ad G0) s_.heap.size) 9 128 ad (mk X ad ω) [(0, .ref (ad 120)), (1, .int (nI (k))), (2, .int d), (3, .int g), (4, .int v4), (5, .int v5), (6, .int v6), (7, .int v7), (8, .int v8)] 290 [.int w0, .int 8, .int (nI (k)), .ref (ad 120)] := by
  intro v4 v5 v6 v7 v8 w0 ω hmi rv G2 e1 e2
  refine g_callV (rest := []) (st1 := []) C (c_X8_lay k 8 w0 (by omega) (by omega) ω hmi) (cwV 3 C.hts gX8_burns_X8_lay rfl rfl rfl md_X8_lay ⟨Nat.le_of_ble_eq_true rfl, Nat.le_of_ble_eq_true rfl⟩) (by decide) (mk_11 (by decide)) rfl rfl rfl rfl rfl (Nat.le_of_ble_eq_true rfl) dX8_burns_290 (Nat.zero_le _) (Nat.zero_le _) ?_
  exact k_X8_burns_293 k d g hk C hret hlk v4 v5 v6 v7 v8 (f_X8_lay k 8 w0 ω) (mi_X8_lay k 8 w0 (by omega) (by omega) ω hmi) _ _ e1 (e2.trans (congrArg (mk X ad) rfl))
theorem mi_X8_burns_290 (k : Nat) (d : Int32) (g : Int32) (hk : k < 4) : ∀ (v4 : Int32) (v5 : Int32) (v6 : Int32) (v7 : Int32) (v8 : Int32) (w0 : Int32) (ω : Mem) (hmi : MIn 10 ω), MIn 10 (f_X8_burns_290 k d g v4 v5 v6 v7 v8 w0 ω) := by
  intro v4 v5 v6 v7 v8 w0 ω hmi
  unfold f_X8_burns_290
  have hz1 := hmi.1.2; have hz2 := hmi.2.1.2; have hz3 := hmi.2.2.2
  exact mi_X8_burns_293 k d g hk v4 v5 v6 v7 v8 (f_X8_lay k 8 w0 ω) (mi_X8_lay k 8 w0 (by omega) (by omega) ω hmi)
def f_X8_burns_268 (k : Nat) (d : Int32) (g : Int32) (v4 : Int32) (v5 : Int32) (v6 : Int32) (v7 : Int32) (v8 : Int32) (ω : Mem) : Mem := (if v7 = 0 then (f_X8_burns_290 k d g v4 v5 v6 v7 v8 0 ω) else (f_X8_burns_290 k d g v4 v5 v6 v7 v8 ((f_X8_get k 8 ω) + 1) ω))
set_option maxRecDepth 100000 in
set_option maxHeartbeats 4000000 in
theorem k_X8_burns_268 {l_ : Launch} {p_ : Program} {e_ : Env} {s_ : State} {m_ : MethodId} {args_ : Array Value} {below_ : List Frame} {meth_ : Method} {c_ : Code} {sa : Nat → Nat} {D : va_G} {X : Nat → ClassId} {ad : Nat → Nat} {G0 : Nat → va_E} (k : Nat) (d : Int32) (g : Int32) (hk : k < 4) (C : GC p_ rm_X8_burns s_ m_ args_ meth_ c_ cX8_burns 9 wsX8_burns RX8 sa D (tyX X) (va_A (gw 128 ad G0) s_.heap.size)) (hret : meth_.sig.returnType = none) (hlk : meth_.locks = false) : ∀ (v4 : Int32) (v5 : Int32) (v6 : Int32) (v7 : Int32) (v8 : Int32) (ω : Mem) (hmi : MIn 10 ω) (rv : Option Value) (G2 : Nat → va_E) (e1 : rv = none) (e2 : G2 = mk X ad (f_X8_burns_268 k d g v4 v5 v6 v7 v8 ω)), GV p_ l_ e_ rm_X8_burns s_ m_ args_ below_ meth_ c_ 0 0 (CQ below_ args_ s_ D 128 ad G0 rv G2) D (va_A (gw 128 ad G0) s_.heap.size) 9 128 ad (mk X ad ω) [(0, .ref (ad 120)), (1, .int (nI (k))), (2, .int d), (3, .int g), (4, .int v4), (5, .int v5), (6, .int v6), (7, .int v7), (8, .int v8)] 268 [] := by
  intro v4 v5 v6 v7 v8 ω hmi rv G2 e1 e2
  refine g_aload_n C dX8_burns_268 rfl 0 rfl ?_
  refine g_iload_n C dX8_burns_269 rfl 1 rfl ?_
  refine g_bipush (v := 8) C dX8_burns_270 (by decide) ?_
  refine g_iload C dX8_burns_272 7 rfl ?_
  refine g_if_eq (tgt := 289) C dX8_burns_274 (by decide) (fun h1 => ?_) (fun h1 => ?_)
  · refine g_iconst (v := 0) C dX8_burns_289 (by decide) ?_
    exact k_X8_burns_290 k d g hk C hret hlk v4 v5 v6 v7 v8 0 ω hmi _ _ e1 (e2.trans (congrArg (mk X ad) ((if_pos h1).trans rfl)))
  · refine g_aload_n C dX8_burns_277 rfl 0 rfl ?_
    refine g_iload_n C dX8_burns_278 rfl 1 rfl ?_
    refine g_bipush (v := 8) C dX8_burns_279 (by decide) ?_
    refine g_callV (rest := [.int 8, .int (nI (k)), .ref (ad 120)]) (st1 := [.int (f_X8_get k 8 ω), .int 8, .int (nI (k)), .ref (ad 120)]) C (c_X8_get k 8 (by omega) (by omega) ω) (cwV 2 C.hts gX8_burns_X8_get rfl rfl rfl md_X8_get ⟨Nat.le_of_ble_eq_true rfl, Nat.le_of_ble_eq_true rfl⟩) (by decide) (mk_11 (by decide)) rfl rfl rfl rfl rfl (Nat.le_of_ble_eq_true rfl) dX8_burns_281 (Nat.zero_le _) (Nat.zero_le _) ?_
    refine g_iconst (v := 1) C dX8_burns_284 (by decide) ?_
    refine g_iadd (v := ((f_X8_get k 8 ω) + 1)) C dX8_burns_285 rfl ?_
    refine g_goto (tgt := 290) C dX8_burns_286 (by decide) ?_
    exact k_X8_burns_290 k d g hk C hret hlk v4 v5 v6 v7 v8 ((f_X8_get k 8 ω) + 1) ω hmi _ _ e1 (e2.trans (congrArg (mk X ad) ((if_neg h1).trans rfl)))
theorem mi_X8_burns_268 (k : Nat) (d : Int32) (g : Int32) (hk : k < 4) : ∀ (v4 : Int32) (v5 : Int32) (v6 : Int32) (v7 : Int32) (v8 : Int32) (ω : Mem) (hmi : MIn 10 ω), MIn 10 (f_X8_burns_268 k d g v4 v5 v6 v7 v8 ω) := by
  intro v4 v5 v6 v7 v8 ω hmi
  unfold f_X8_burns_268
  have hz1 := hmi.1.2; have hz2 := hmi.2.1.2; have hz3 := hmi.2.2.2
  by_cases h1 : v7 = 0
  · rw [if_pos h1]
    exact mi_X8_burns_290 k d g hk v4 v5 v6 v7 v8 0 ω hmi
  · rw [if_neg h1]
    exact mi_X8_burns_290 k d g hk v4 v5 v6 v7 v8 ((f_X8_get k 8 ω) + 1) ω hmi
def f_X8_burns_251 (k : Nat) (d : Int32) (g : Int32) (v4 : Int32) (v5 : Int32) (v6 : Int32) (v7 : Int32) (v8 : Int32) (ω : Mem) : Mem := (f_X8_burns_268 k d g v4 v5 v6 v7 v8 (f_X8_lay k 9 ((f_X8_get k 9 ω) + v8) ω))
set_option maxRecDepth 100000 in
set_option maxHeartbeats 4000000 in
theorem k_X8_burns_251 {l_ : Launch} {p_ : Program} {e_ : Env} {s_ : State} {m_ : MethodId} {args_ : Array Value} {below_ : List Frame} {meth_ : Method} {c_ : Code} {sa : Nat → Nat} {D : va_G} {X : Nat → ClassId} {ad : Nat → Nat} {G0 : Nat → va_E} (k : Nat) (d : Int32) (g : Int32) (hk : k < 4) (C : GC p_ rm_X8_burns s_ m_ args_ meth_ c_ cX8_burns 9 wsX8_burns RX8 sa D (tyX X) (va_A (gw 128 ad G0) s_.heap.size)) (hret : meth_.sig.returnType = none) (hlk : meth_.locks = false) : ∀ (v4 : Int32) (v5 : Int32) (v6 : Int32) (v7 : Int32) (v8 : Int32) (ω : Mem) (hmi : MIn 10 ω) (rv : Option Value) (G2 : Nat → va_E) (e1 : rv = none) (e2 : G2 = mk X ad (f_X8_burns_251 k d g v4 v5 v6 v7 v8 ω)), GV p_ l_ e_ rm_X8_burns s_ m_ args_ below_ meth_ c_ 0 0 (CQ below_ args_ s_ D 128 ad G0 rv G2) D (va_A (gw 128 ad G0) s_.heap.size) 9 128 ad (mk X ad ω) [(0, .ref (ad 120)), (1, .int (nI (k))), (2, .int d), (3, .int g), (4, .int v4), (5, .int v5), (6, .int v6), (7, .int v7), (8, .int v8)] 251 [] := by
  intro v4 v5 v6 v7 v8 ω hmi rv G2 e1 e2
  refine g_aload_n C dX8_burns_251 rfl 0 rfl ?_
  refine g_iload_n C dX8_burns_252 rfl 1 rfl ?_
  refine g_bipush (v := 9) C dX8_burns_253 (by decide) ?_
  refine g_aload_n C dX8_burns_255 rfl 0 rfl ?_
  refine g_iload_n C dX8_burns_256 rfl 1 rfl ?_
  refine g_bipush (v := 9) C dX8_burns_257 (by decide) ?_
  refine g_callV (rest := [.int 9, .int (nI (k)), .ref (ad 120)]) (st1 := [.int (f_X8_get k 9 ω), .int 9, .int (nI (k)), .ref (ad 120)]) C (c_X8_get k 9 (by omega) (by omega) ω) (cwV 2 C.hts gX8_burns_X8_get rfl rfl rfl md_X8_get ⟨Nat.le_of_ble_eq_true rfl, Nat.le_of_ble_eq_true rfl⟩) (by decide) (mk_11 (by decide)) rfl rfl rfl rfl rfl (Nat.le_of_ble_eq_true rfl) dX8_burns_259 (Nat.zero_le _) (Nat.zero_le _) ?_
  refine g_iload C dX8_burns_262 8 rfl ?_
  refine g_iadd (v := ((f_X8_get k 9 ω) + v8)) C dX8_burns_264 rfl ?_
  refine g_callV (rest := []) (st1 := []) C (c_X8_lay k 9 ((f_X8_get k 9 ω) + v8) (by omega) (by omega) ω hmi) (cwV 3 C.hts gX8_burns_X8_lay rfl rfl rfl md_X8_lay ⟨Nat.le_of_ble_eq_true rfl, Nat.le_of_ble_eq_true rfl⟩) (by decide) (mk_11 (by decide)) rfl rfl rfl rfl rfl (Nat.le_of_ble_eq_true rfl) dX8_burns_265 (Nat.zero_le _) (Nat.zero_le _) ?_
  exact k_X8_burns_268 k d g hk C hret hlk v4 v5 v6 v7 v8 (f_X8_lay k 9 ((f_X8_get k 9 ω) + v8) ω) (mi_X8_lay k 9 ((f_X8_get k 9 ω) + v8) (by omega) (by omega) ω hmi) _ _ e1 (e2.trans (congrArg (mk X ad) rfl))
theorem mi_X8_burns_251 (k : Nat) (d : Int32) (g : Int32) (hk : k < 4) : ∀ (v4 : Int32) (v5 : Int32) (v6 : Int32) (v7 : Int32) (v8 : Int32) (ω : Mem) (hmi : MIn 10 ω), MIn 10 (f_X8_burns_251 k d g v4 v5 v6 v7 v8 ω) := by
  intro v4 v5 v6 v7 v8 ω hmi
  unfold f_X8_burns_251
  have hz1 := hmi.1.2; have hz2 := hmi.2.1.2; have hz3 := hmi.2.2.2
  exact mi_X8_burns_268 k d g hk v4 v5 v6 v7 v8 (f_X8_lay k 9 ((f_X8_get k 9 ω) + v8) ω) (mi_X8_lay k 9 ((f_X8_get k 9 ω) + v8) (by omega) (by omega) ω hmi)
def f_X8_burns_238 (k : Nat) (d : Int32) (g : Int32) (v4 : Int32) (v5 : Int32) (v6 : Int32) (v7 : Int32) (w0 : Int32) (ω : Mem) : Mem := (f_X8_burns_251 k d g v4 v5 v6 v7 w0 (st ω 121 5 ((ω 121 5) + w0)))
set_option maxRecDepth 100000 in
set_option maxHeartbeats 4000000 in
theorem k_X8_burns_238 {l_ : Launch} {p_ : Program} {e_ : Env} {s_ : State} {m_ : MethodId} {args_ : Array Value} {below_ : List Frame} {meth_ : Method} {c_ : Code} {sa : Nat → Nat} {D : va_G} {X : Nat → ClassId} {ad : Nat → Nat} {G0 : Nat → va_E} (k : Nat) (d : Int32) (g : Int32) (hk : k < 4) (C : GC p_ rm_X8_burns s_ m_ args_ meth_ c_ cX8_burns 9 wsX8_burns RX8 sa D (tyX X) (va_A (gw 128 ad G0) s_.heap.size)) (hret : meth_.sig.returnType = none) (hlk : meth_.locks = false) : ∀ (v4 : Int32) (v5 : Int32) (v6 : Int32) (v7 : Int32) (w0 : Int32) (ω : Mem) (hmi : MIn 10 ω) (rv : Option Value) (G2 : Nat → va_E) (e1 : rv = none) (e2 : G2 = mk X ad (f_X8_burns_238 k d g v4 v5 v6 v7 w0 ω)), GV p_ l_ e_ rm_X8_burns s_ m_ args_ below_ meth_ c_ 0 0 (CQ below_ args_ s_ D 128 ad G0 rv G2) D (va_A (gw 128 ad G0) s_.heap.size) 9 128 ad (mk X ad ω) [(0, .ref (ad 120)), (1, .int (nI (k))), (2, .int d), (3, .int g), (4, .int v4), (5, .int v5), (6, .int v6), (7, .int v7)] 238 [.int w0] := by
  have iX8 : ∀ w ∈ u_ws RX8 TX8 14, w ∈ wsX8_burns := by decide +kernel
  have L7 : Cond.fieldLink RX8 7 (TX8 1).1 (TX8 1).2.1 (TX8 1).2.2.1 ∈ wsX8_burns := by decide +kernel
  intro v4 v5 v6 v7 w0 ω hmi rv G2 e1 e2
  refine g_istore (lv' := [(8, .int w0), (0, .ref (ad 120)), (1, .int (nI (k))), (2, .int d), (3, .int g), (4, .int v4), (5, .int v5), (6, .int v6), (7, .int v7)]) C dX8_burns_238 (by decide) rfl ?_
  refine g_aload_n C dX8_burns_240 rfl 1 rfl ?_
  refine g_get (v := .ref (ad 121)) C iX8 (by decide) (mk_11 (by decide)) rfl 1 (by decide) L7 rfl dX8_burns_241 ?_
  refine g_iconst (v := 5) C dX8_burns_244 (by decide) ?_
  refine g_dup2 C dX8_burns_245 rfl rfl ?_
  refine g_iald (k := 5) C 0 (by decide) (mk_12n (N := 108) (by decide) (by decide)) rfl (by unfold vp_in; decide) rfl dX8_burns_246 ?_
  refine g_iload C dX8_burns_247 0 rfl ?_
  refine g_iadd (v := ((ω 121 5) + w0)) C dX8_burns_249 rfl ?_
  refine g_iast (k := 5) C 0 (by decide) (mk_12n (N := 108) (by decide) (by decide)) rfl (by unfold vp_in; decide) rfl dX8_burns_250 ?_
  refine gv_eqG (mk_row (N := 108) (by decide) (by decide)) ?_
  refine gv_lv (lv' := [(0, .ref (ad 120)), (1, .int (nI (k))), (2, .int d), (3, .int g), (4, .int v4), (5, .int v5), (6, .int v6), (7, .int v7), (8, .int w0)]) [1, 2, 3, 4, 5, 6, 7, 8, 0] rfl ?_
  exact k_X8_burns_251 k d g hk C hret hlk v4 v5 v6 v7 w0 (st ω 121 5 ((ω 121 5) + w0)) (MIn_s hmi (by omega) (by omega)) _ _ e1 (e2.trans (congrArg (mk X ad) rfl))
theorem mi_X8_burns_238 (k : Nat) (d : Int32) (g : Int32) (hk : k < 4) : ∀ (v4 : Int32) (v5 : Int32) (v6 : Int32) (v7 : Int32) (w0 : Int32) (ω : Mem) (hmi : MIn 10 ω), MIn 10 (f_X8_burns_238 k d g v4 v5 v6 v7 w0 ω) := by
  intro v4 v5 v6 v7 w0 ω hmi
  unfold f_X8_burns_238
  have hz1 := hmi.1.2; have hz2 := hmi.2.1.2; have hz3 := hmi.2.2.2
  exact mi_X8_burns_251 k d g hk v4 v5 v6 v7 w0 (st ω 121 5 ((ω 121 5) + w0)) (MIn_s hmi (by omega) (by omega))
def f_X8_burns_216 (k : Nat) (d : Int32) (g : Int32) (v4 : Int32) (v5 : Int32) (v6 : Int32) (w0 : Int32) (ω : Mem) : Mem := (if w0 = 0 then (f_X8_burns_238 k d g v4 v5 v6 w0 0 ω) else (f_X8_burns_238 k d g v4 v5 v6 w0 (f_X8_flow v5 (f_X8_get k 1 ω) ω) ω))
set_option maxRecDepth 100000 in
set_option maxHeartbeats 4000000 in
theorem k_X8_burns_216 {l_ : Launch} {p_ : Program} {e_ : Env} {s_ : State} {m_ : MethodId} {args_ : Array Value} {below_ : List Frame} {meth_ : Method} {c_ : Code} {sa : Nat → Nat} {D : va_G} {X : Nat → ClassId} {ad : Nat → Nat} {G0 : Nat → va_E} (k : Nat) (d : Int32) (g : Int32) (hk : k < 4) (C : GC p_ rm_X8_burns s_ m_ args_ meth_ c_ cX8_burns 9 wsX8_burns RX8 sa D (tyX X) (va_A (gw 128 ad G0) s_.heap.size)) (hret : meth_.sig.returnType = none) (hlk : meth_.locks = false) : ∀ (v4 : Int32) (v5 : Int32) (v6 : Int32) (w0 : Int32) (ω : Mem) (hmi : MIn 10 ω) (rv : Option Value) (G2 : Nat → va_E) (e1 : rv = none) (e2 : G2 = mk X ad (f_X8_burns_216 k d g v4 v5 v6 w0 ω)), GV p_ l_ e_ rm_X8_burns s_ m_ args_ below_ meth_ c_ 0 0 (CQ below_ args_ s_ D 128 ad G0 rv G2) D (va_A (gw 128 ad G0) s_.heap.size) 9 128 ad (mk X ad ω) [(0, .ref (ad 120)), (1, .int (nI (k))), (2, .int d), (3, .int g), (4, .int v4), (5, .int v5), (6, .int v6)] 216 [.int w0] := by
  intro v4 v5 v6 w0 ω hmi rv G2 e1 e2
  refine g_istore (lv' := [(7, .int w0), (0, .ref (ad 120)), (1, .int (nI (k))), (2, .int d), (3, .int g), (4, .int v4), (5, .int v5), (6, .int v6)]) C dX8_burns_216 (by decide) rfl ?_
  refine g_iload C dX8_burns_218 0 rfl ?_
  refine g_if_eq (tgt := 237) C dX8_burns_220 (by decide) (fun h1 => ?_) (fun h1 => ?_)
  · refine g_iconst (v := 0) C dX8_burns_237 (by decide) ?_
    refine gv_lv (lv' := [(0, .ref (ad 120)), (1, .int (nI (k))), (2, .int d), (3, .int g), (4, .int v4), (5, .int v5), (6, .int v6), (7, .int w0)]) [1, 2, 3, 4, 5, 6, 7, 0] rfl ?_
    exact k_X8_burns_238 k d g hk C hret hlk v4 v5 v6 w0 0 ω hmi _ _ e1 (e2.trans (congrArg (mk X ad) ((if_pos h1).trans rfl)))
  · refine g_iload C dX8_burns_223 6 rfl ?_
    refine g_aload_n C dX8_burns_225 rfl 1 rfl ?_
    refine g_iload_n C dX8_burns_226 rfl 2 rfl ?_
    refine g_iconst (v := 1) C dX8_burns_227 (by decide) ?_
    refine g_callV (rest := [.int v5]) (st1 := [.int (f_X8_get k 1 ω), .int v5]) C (c_X8_get k 1 (by omega) (by omega) ω) (cwV 2 C.hts gX8_burns_X8_get rfl rfl rfl md_X8_get ⟨Nat.le_of_ble_eq_true rfl, Nat.le_of_ble_eq_true rfl⟩) (by decide) (mk_11 (by decide)) rfl rfl rfl rfl rfl (Nat.le_of_ble_eq_true rfl) dX8_burns_228 (Nat.zero_le _) (Nat.zero_le _) ?_
    refine g_callS (rest := []) (st1 := [.int (f_X8_flow v5 (f_X8_get k 1 ω) ω)]) C (c_X8_flow v5 (f_X8_get k 1 ω) ω) (va_cwS 2 C.hts gX8_burns_X8_flow rfl rfl rfl md_X8_flow.2 ⟨Nat.le_of_ble_eq_true rfl, Nat.le_of_ble_eq_true rfl⟩) rfl rfl rfl (Nat.le_of_ble_eq_true rfl) dX8_burns_231 (Nat.zero_le _) (Nat.zero_le _) ?_
    refine g_goto (tgt := 238) C dX8_burns_234 (by decide) ?_
    refine gv_lv (lv' := [(0, .ref (ad 120)), (1, .int (nI (k))), (2, .int d), (3, .int g), (4, .int v4), (5, .int v5), (6, .int v6), (7, .int w0)]) [1, 2, 3, 4, 5, 6, 7, 0] rfl ?_
    exact k_X8_burns_238 k d g hk C hret hlk v4 v5 v6 w0 (f_X8_flow v5 (f_X8_get k 1 ω) ω) ω hmi _ _ e1 (e2.trans (congrArg (mk X ad) ((if_neg h1).trans rfl)))
theorem mi_X8_burns_216 (k : Nat) (d : Int32) (g : Int32) (hk : k < 4) : ∀ (v4 : Int32) (v5 : Int32) (v6 : Int32) (w0 : Int32) (ω : Mem) (hmi : MIn 10 ω), MIn 10 (f_X8_burns_216 k d g v4 v5 v6 w0 ω) := by
  intro v4 v5 v6 w0 ω hmi
  unfold f_X8_burns_216
  have hz1 := hmi.1.2; have hz2 := hmi.2.1.2; have hz3 := hmi.2.2.2
  by_cases h1 : w0 = 0
  · rw [if_pos h1]
    exact mi_X8_burns_238 k d g hk v4 v5 v6 w0 0 ω hmi
  · rw [if_neg h1]
    exact mi_X8_burns_238 k d g hk v4 v5 v6 w0 (f_X8_flow v5 (f_X8_get k 1 ω) ω) ω hmi
def f_X8_burns_194 (k : Nat) (d : Int32) (g : Int32) (v4 : Int32) (v5 : Int32) (v6 : Int32) (ω : Mem) : Mem := (if (f_X8_isOpen k ω) = 0 then (f_X8_burns_216 k d g v4 v5 v6 0 ω) else (if (f_X8_get k 4 ω) = 0 then (f_X8_burns_216 k d g v4 v5 v6 1 ω) else (f_X8_burns_216 k d g v4 v5 v6 0 ω)))
set_option maxRecDepth 100000 in
set_option maxHeartbeats 4000000 in
theorem k_X8_burns_194 {l_ : Launch} {p_ : Program} {e_ : Env} {s_ : State} {m_ : MethodId} {args_ : Array Value} {below_ : List Frame} {meth_ : Method} {c_ : Code} {sa : Nat → Nat} {D : va_G} {X : Nat → ClassId} {ad : Nat → Nat} {G0 : Nat → va_E} (k : Nat) (d : Int32) (g : Int32) (hk : k < 4) (C : GC p_ rm_X8_burns s_ m_ args_ meth_ c_ cX8_burns 9 wsX8_burns RX8 sa D (tyX X) (va_A (gw 128 ad G0) s_.heap.size)) (hret : meth_.sig.returnType = none) (hlk : meth_.locks = false) : ∀ (v4 : Int32) (v5 : Int32) (v6 : Int32) (ω : Mem) (hmi : MIn 10 ω) (rv : Option Value) (G2 : Nat → va_E) (e1 : rv = none) (e2 : G2 = mk X ad (f_X8_burns_194 k d g v4 v5 v6 ω)), GV p_ l_ e_ rm_X8_burns s_ m_ args_ below_ meth_ c_ 0 0 (CQ below_ args_ s_ D 128 ad G0 rv G2) D (va_A (gw 128 ad G0) s_.heap.size) 9 128 ad (mk X ad ω) [(0, .ref (ad 120)), (1, .int (nI (k))), (2, .int d), (3, .int g), (4, .int v4), (5, .int v5), (6, .int v6)] 194 [] := by
  intro v4 v5 v6 ω hmi rv G2 e1 e2
  refine g_aload_n C dX8_burns_194 rfl 0 rfl ?_
  refine g_iload_n C dX8_burns_195 rfl 1 rfl ?_
  refine g_callV (rest := []) (st1 := [.int (f_X8_isOpen k ω)]) C (c_X8_isOpen k (by omega) ω) (cwV 1 C.hts gX8_burns_X8_isOpen rfl rfl rfl md_X8_isOpen ⟨Nat.le_of_ble_eq_true rfl, Nat.le_of_ble_eq_true rfl⟩) (by decide) (mk_11 (by decide)) rfl rfl rfl rfl rfl (Nat.le_of_ble_eq_true rfl) dX8_burns_196 (Nat.zero_le _) (Nat.zero_le _) ?_
  refine g_if_eq (tgt := 215) C dX8_burns_199 (by decide) (fun h1 => ?_) (fun h1 => ?_)
  · refine g_iconst (v := 0) C dX8_burns_215 (by decide) ?_
    exact k_X8_burns_216 k d g hk C hret hlk v4 v5 v6 0 ω hmi _ _ e1 (e2.trans (congrArg (mk X ad) ((if_pos h1).trans rfl)))
  · refine g_aload_n C dX8_burns_202 rfl 0 rfl ?_
    refine g_iload_n C dX8_burns_203 rfl 1 rfl ?_
    refine g_iconst (v := 4) C dX8_burns_204 (by decide) ?_
    refine g_callV (rest := []) (st1 := [.int (f_X8_get k 4 ω)]) C (c_X8_get k 4 (by omega) (by omega) ω) (cwV 2 C.hts gX8_burns_X8_get rfl rfl rfl md_X8_get ⟨Nat.le_of_ble_eq_true rfl, Nat.le_of_ble_eq_true rfl⟩) (by decide) (mk_11 (by decide)) rfl rfl rfl rfl rfl (Nat.le_of_ble_eq_true rfl) dX8_burns_205 (Nat.zero_le _) (Nat.zero_le _) ?_
    refine g_if_ne (tgt := 215) C dX8_burns_208 (by decide) (fun h2 => ?_) (fun h2 => ?_)
    · refine g_iconst (v := 0) C dX8_burns_215 (by decide) ?_
      exact k_X8_burns_216 k d g hk C hret hlk v4 v5 v6 0 ω hmi _ _ e1 (e2.trans (congrArg (mk X ad) ((if_neg h1).trans ((if_neg h2).trans rfl))))
    · refine g_iconst (v := 1) C dX8_burns_211 (by decide) ?_
      refine g_goto (tgt := 216) C dX8_burns_212 (by decide) ?_
      exact k_X8_burns_216 k d g hk C hret hlk v4 v5 v6 1 ω hmi _ _ e1 (e2.trans (congrArg (mk X ad) ((if_neg h1).trans ((if_pos h2).trans rfl))))
theorem mi_X8_burns_194 (k : Nat) (d : Int32) (g : Int32) (hk : k < 4) : ∀ (v4 : Int32) (v5 : Int32) (v6 : Int32) (ω : Mem) (hmi : MIn 10 ω), MIn 10 (f_X8_burns_194 k d g v4 v5 v6 ω) := by
  intro v4 v5 v6 ω hmi
  unfold f_X8_burns_194
  have hz1 := hmi.1.2; have hz2 := hmi.2.1.2; have hz3 := hmi.2.2.2
  by_cases h1 : (f_X8_isOpen k ω) = 0
  · rw [if_pos h1]
    exact mi_X8_burns_216 k d g hk v4 v5 v6 0 ω hmi
  · rw [if_neg h1]
    by_cases h2 : (f_X8_get k 4 ω) = 0
    · rw [if_pos h2]
      exact mi_X8_burns_216 k d g hk v4 v5 v6 1 ω hmi
    · rw [if_neg h2]
      exact mi_X8_burns_216 k d g hk v4 v5 v6 0 ω hmi
def f_X8_burns_168 (k : Nat) (d : Int32) (g : Int32) (v4 : Int32) (v5 : Int32) (v6 : Int32) (ω : Mem) : Mem := (if v4 = 0 then (f_X8_burns_194 k d g v4 v5 v6 ω) else (if (f_X8_isOpen k ω) = 0 then (f_X8_burns_194 k d g v4 v5 v6 (f_X8_tells 2 (nI (k)) (f_X8_lay k 4 0 ω))) else (f_X8_burns_194 k d g v4 v5 v6 ω)))
set_option maxRecDepth 100000 in
set_option maxHeartbeats 4000000 in
theorem k_X8_burns_168 {l_ : Launch} {p_ : Program} {e_ : Env} {s_ : State} {m_ : MethodId} {args_ : Array Value} {below_ : List Frame} {meth_ : Method} {c_ : Code} {sa : Nat → Nat} {D : va_G} {X : Nat → ClassId} {ad : Nat → Nat} {G0 : Nat → va_E} (k : Nat) (d : Int32) (g : Int32) (hk : k < 4) (C : GC p_ rm_X8_burns s_ m_ args_ meth_ c_ cX8_burns 9 wsX8_burns RX8 sa D (tyX X) (va_A (gw 128 ad G0) s_.heap.size)) (hret : meth_.sig.returnType = none) (hlk : meth_.locks = false) : ∀ (v4 : Int32) (v5 : Int32) (v6 : Int32) (ω : Mem) (hmi : MIn 10 ω) (rv : Option Value) (G2 : Nat → va_E) (e1 : rv = none) (e2 : G2 = mk X ad (f_X8_burns_168 k d g v4 v5 v6 ω)), GV p_ l_ e_ rm_X8_burns s_ m_ args_ below_ meth_ c_ 0 0 (CQ below_ args_ s_ D 128 ad G0 rv G2) D (va_A (gw 128 ad G0) s_.heap.size) 9 128 ad (mk X ad ω) [(0, .ref (ad 120)), (1, .int (nI (k))), (2, .int d), (3, .int g), (4, .int v4), (5, .int v5), (6, .int v6)] 168 [] := by
  intro v4 v5 v6 ω hmi rv G2 e1 e2
  refine g_iload C dX8_burns_168 4 rfl ?_
  refine g_if_eq (tgt := 194) C dX8_burns_170 (by decide) (fun h1 => ?_) (fun h1 => ?_)
  · exact k_X8_burns_194 k d g hk C hret hlk v4 v5 v6 ω hmi _ _ e1 (e2.trans (congrArg (mk X ad) ((if_pos h1).trans rfl)))
  · refine g_aload_n C dX8_burns_173 rfl 0 rfl ?_
    refine g_iload_n C dX8_burns_174 rfl 1 rfl ?_
    refine g_callV (rest := []) (st1 := [.int (f_X8_isOpen k ω)]) C (c_X8_isOpen k (by omega) ω) (cwV 1 C.hts gX8_burns_X8_isOpen rfl rfl rfl md_X8_isOpen ⟨Nat.le_of_ble_eq_true rfl, Nat.le_of_ble_eq_true rfl⟩) (by decide) (mk_11 (by decide)) rfl rfl rfl rfl rfl (Nat.le_of_ble_eq_true rfl) dX8_burns_175 (Nat.zero_le _) (Nat.zero_le _) ?_
    refine g_if_ne (tgt := 194) C dX8_burns_178 (by decide) (fun h2 => ?_) (fun h2 => ?_)
    · exact k_X8_burns_194 k d g hk C hret hlk v4 v5 v6 ω hmi _ _ e1 (e2.trans (congrArg (mk X ad) ((if_neg h1).trans ((if_neg h2).trans rfl))))
    · refine g_aload_n C dX8_burns_181 rfl 0 rfl ?_
      refine g_iload_n C dX8_burns_182 rfl 1 rfl ?_
      refine g_iconst (v := 4) C dX8_burns_183 (by decide) ?_
      refine g_iconst (v := 0) C dX8_burns_184 (by decide) ?_
      refine g_callV (rest := []) (st1 := []) C (c_X8_lay k 4 0 (by omega) (by omega) ω hmi) (cwV 3 C.hts gX8_burns_X8_lay rfl rfl rfl md_X8_lay ⟨Nat.le_of_ble_eq_true rfl, Nat.le_of_ble_eq_true rfl⟩) (by decide) (mk_11 (by decide)) rfl rfl rfl rfl rfl (Nat.le_of_ble_eq_true rfl) dX8_burns_185 (Nat.zero_le _) (Nat.zero_le _) ?_
      refine g_aload_n C dX8_burns_188 rfl 0 rfl ?_
      refine g_iconst (v := 2) C dX8_burns_189 (by decide) ?_
      refine g_iload_n C dX8_burns_190 rfl 1 rfl ?_
      refine g_callV (rest := []) (st1 := []) C (c_X8_tells 2 (nI (k)) (by omega) (f_X8_lay k 4 0 ω) (mi_X8_lay k 4 0 (by omega) (by omega) ω hmi)) (cwV 2 C.hts gX8_burns_X8_tells rfl rfl rfl md_X8_tells ⟨Nat.le_of_ble_eq_true rfl, Nat.le_of_ble_eq_true rfl⟩) (by decide) (mk_11 (by decide)) rfl rfl rfl rfl rfl (Nat.le_of_ble_eq_true rfl) dX8_burns_191 (Nat.zero_le _) (Nat.zero_le _) ?_
      exact k_X8_burns_194 k d g hk C hret hlk v4 v5 v6 (f_X8_tells 2 (nI (k)) (f_X8_lay k 4 0 ω)) (mi_X8_tells 2 (nI (k)) (by omega) (f_X8_lay k 4 0 ω) (mi_X8_lay k 4 0 (by omega) (by omega) ω hmi)) _ _ e1 (e2.trans (congrArg (mk X ad) ((if_neg h1).trans ((if_pos h2).trans rfl))))
theorem mi_X8_burns_168 (k : Nat) (d : Int32) (g : Int32) (hk : k < 4) : ∀ (v4 : Int32) (v5 : Int32) (v6 : Int32) (ω : Mem) (hmi : MIn 10 ω), MIn 10 (f_X8_burns_168 k d g v4 v5 v6 ω) := by
  intro v4 v5 v6 ω hmi
  unfold f_X8_burns_168
  have hz1 := hmi.1.2; have hz2 := hmi.2.1.2; have hz3 := hmi.2.2.2
  by_cases h1 : v4 = 0
  · rw [if_pos h1]
    exact mi_X8_burns_194 k d g hk v4 v5 v6 ω hmi
  · rw [if_neg h1]
    by_cases h2 : (f_X8_isOpen k ω) = 0
    · rw [if_pos h2]
      exact mi_X8_burns_194 k d g hk v4 v5 v6 (f_X8_tells 2 (nI (k)) (f_X8_lay k 4 0 ω)) (mi_X8_tells 2 (nI (k)) (by omega) (f_X8_lay k 4 0 ω) (mi_X8_lay k 4 0 (by omega) (by omega) ω hmi))
    · rw [if_neg h2]
      exact mi_X8_burns_194 k d g hk v4 v5 v6 ω hmi
def f_X8_burns_165 (k : Nat) (d : Int32) (g : Int32) (v4 : Int32) (v5 : Int32) (v6 : Int32) (w0 : Int32) (ω : Mem) : Mem := (f_X8_burns_168 k d g v4 v5 v6 (f_X8_lay k 5 w0 ω))
set_option maxRecDepth 100000 in
set_option maxHeartbeats 4000000 in
theorem k_X8_burns_165 {l_ : Launch} {p_ : Program} {e_ : Env} {s_ : State} {m_ : MethodId} {args_ : Array Value} {below_ : List Frame} {meth_ : Method} {c_ : Code} {sa : Nat → Nat} {D : va_G} {X : Nat → ClassId} {ad : Nat → Nat} {G0 : Nat → va_E} (k : Nat) (d : Int32) (g : Int32) (hk : k < 4) (C : GC p_ rm_X8_burns s_ m_ args_ meth_ c_ cX8_burns 9 wsX8_burns RX8 sa D (tyX X) (va_A (gw 128 ad G0) s_.heap.size)) (hret : meth_.sig.returnType = none) (hlk : meth_.locks = false) : ∀ (v4 : Int32) (v5 : Int32) (v6 : Int32) (w0 : Int32) (ω : Mem) (hmi : MIn 10 ω) (rv : Option Value) (G2 : Nat → va_E) (e1 : rv = none) (e2 : G2 = mk X ad (f_X8_burns_165 k d g v4 v5 v6 w0 ω)), GV p_ l_ e_ rm_X8_burns s_ m_ args_ below_ meth_ c_ 0 0 (CQ below_ args_ s_ D 128 ad G0 rv G2) D (va_A (gw 128 ad G0) s_.heap.size) 9 128 ad (mk X ad ω) [(0, .ref (ad 120)), (1, .int (nI (k))), (2, .int d), (3, .int g), (4, .int v4), (5, .int v5), (6, .int v6)] 165 [.int w0, .int 5, .int (nI (k)), .ref (ad 120)] := by
  intro v4 v5 v6 w0 ω hmi rv G2 e1 e2
  refine g_callV (rest := []) (st1 := []) C (c_X8_lay k 5 w0 (by omega) (by omega) ω hmi) (cwV 3 C.hts gX8_burns_X8_lay rfl rfl rfl md_X8_lay ⟨Nat.le_of_ble_eq_true rfl, Nat.le_of_ble_eq_true rfl⟩) (by decide) (mk_11 (by decide)) rfl rfl rfl rfl rfl (Nat.le_of_ble_eq_true rfl) dX8_burns_165 (Nat.zero_le _) (Nat.zero_le _) ?_
  exact k_X8_burns_168 k d g hk C hret hlk v4 v5 v6 (f_X8_lay k 5 w0 ω) (mi_X8_lay k 5 w0 (by omega) (by omega) ω hmi) _ _ e1 (e2.trans (congrArg (mk X ad) rfl))
theorem mi_X8_burns_165 (k : Nat) (d : Int32) (g : Int32) (hk : k < 4) : ∀ (v4 : Int32) (v5 : Int32) (v6 : Int32) (w0 : Int32) (ω : Mem) (hmi : MIn 10 ω), MIn 10 (f_X8_burns_165 k d g v4 v5 v6 w0 ω) := by
  intro v4 v5 v6 w0 ω hmi
  unfold f_X8_burns_165
  have hz1 := hmi.1.2; have hz2 := hmi.2.1.2; have hz3 := hmi.2.2.2
  exact mi_X8_burns_168 k d g hk v4 v5 v6 (f_X8_lay k 5 w0 ω) (mi_X8_lay k 5 w0 (by omega) (by omega) ω hmi)
def f_X8_burns_100 (k : Nat) (d : Int32) (g : Int32) (ω : Mem) : Mem := (if (f_X8_get k 4 ω) = 1 then (f_X8_burns_165 k d g (f_X8_isOpen k ω) (f_X8_get k 0 ω) (f_X8_get k 5 ω) (f_X8_byFlame (f_X8_get k 0 ω) (f_X8_get k 5 ω) (f_X8_heat (f_X8_get k 0 ω) (f_X8_get k 1 ω) ω) ω) ω) else (f_X8_burns_165 k d g (f_X8_isOpen k ω) (f_X8_get k 0 ω) (f_X8_get k 5 ω) (f_X8_cooled (f_X8_get k 0 ω) (f_X8_get k 5 ω) 0 ω) ω))
set_option maxRecDepth 100000 in
set_option maxHeartbeats 4000000 in
theorem k_X8_burns_100 {l_ : Launch} {p_ : Program} {e_ : Env} {s_ : State} {m_ : MethodId} {args_ : Array Value} {below_ : List Frame} {meth_ : Method} {c_ : Code} {sa : Nat → Nat} {D : va_G} {X : Nat → ClassId} {ad : Nat → Nat} {G0 : Nat → va_E} (k : Nat) (d : Int32) (g : Int32) (hk : k < 4) (C : GC p_ rm_X8_burns s_ m_ args_ meth_ c_ cX8_burns 9 wsX8_burns RX8 sa D (tyX X) (va_A (gw 128 ad G0) s_.heap.size)) (hret : meth_.sig.returnType = none) (hlk : meth_.locks = false) : ∀  (ω : Mem) (hmi : MIn 10 ω) (rv : Option Value) (G2 : Nat → va_E) (e1 : rv = none) (e2 : G2 = mk X ad (f_X8_burns_100 k d g ω)), GV p_ l_ e_ rm_X8_burns s_ m_ args_ below_ meth_ c_ 0 0 (CQ below_ args_ s_ D 128 ad G0 rv G2) D (va_A (gw 128 ad G0) s_.heap.size) 9 128 ad (mk X ad ω) [(0, .ref (ad 120)), (1, .int (nI (k))), (2, .int d), (3, .int g)] 100 [] := by
  intro ω hmi rv G2 e1 e2
  refine g_aload_n C dX8_burns_100 rfl 0 rfl ?_
  refine g_iload_n C dX8_burns_101 rfl 1 rfl ?_
  refine g_callV (rest := []) (st1 := [.int (f_X8_isOpen k ω)]) C (c_X8_isOpen k (by omega) ω) (cwV 1 C.hts gX8_burns_X8_isOpen rfl rfl rfl md_X8_isOpen ⟨Nat.le_of_ble_eq_true rfl, Nat.le_of_ble_eq_true rfl⟩) (by decide) (mk_11 (by decide)) rfl rfl rfl rfl rfl (Nat.le_of_ble_eq_true rfl) dX8_burns_102 (Nat.zero_le _) (Nat.zero_le _) ?_
  refine g_istore (lv' := [(4, .int (f_X8_isOpen k ω)), (0, .ref (ad 120)), (1, .int (nI (k))), (2, .int d), (3, .int g)]) C dX8_burns_105 (by decide) rfl ?_
  refine g_aload_n C dX8_burns_107 rfl 1 rfl ?_
  refine g_iload_n C dX8_burns_108 rfl 2 rfl ?_
  refine g_iconst (v := 0) C dX8_burns_109 (by decide) ?_
  refine g_callV (rest := []) (st1 := [.int (f_X8_get k 0 ω)]) C (c_X8_get k 0 (by omega) (by omega) ω) (cwV 2 C.hts gX8_burns_X8_get rfl rfl rfl md_X8_get ⟨Nat.le_of_ble_eq_true rfl, Nat.le_of_ble_eq_true rfl⟩) (by decide) (mk_11 (by decide)) rfl rfl rfl rfl rfl (Nat.le_of_ble_eq_true rfl) dX8_burns_110 (Nat.zero_le _) (Nat.zero_le _) ?_
  refine g_istore (lv' := [(5, .int (f_X8_get k 0 ω)), (4, .int (f_X8_isOpen k ω)), (0, .ref (ad 120)), (1, .int (nI (k))), (2, .int d), (3, .int g)]) C dX8_burns_113 (by decide) rfl ?_
  refine g_aload_n C dX8_burns_115 rfl 2 rfl ?_
  refine g_iload_n C dX8_burns_116 rfl 3 rfl ?_
  refine g_iconst (v := 5) C dX8_burns_117 (by decide) ?_
  refine g_callV (rest := []) (st1 := [.int (f_X8_get k 5 ω)]) C (c_X8_get k 5 (by omega) (by omega) ω) (cwV 2 C.hts gX8_burns_X8_get rfl rfl rfl md_X8_get ⟨Nat.le_of_ble_eq_true rfl, Nat.le_of_ble_eq_true rfl⟩) (by decide) (mk_11 (by decide)) rfl rfl rfl rfl rfl (Nat.le_of_ble_eq_true rfl) dX8_burns_118 (Nat.zero_le _) (Nat.zero_le _) ?_
  refine g_istore (lv' := [(6, .int (f_X8_get k 5 ω)), (5, .int (f_X8_get k 0 ω)), (4, .int (f_X8_isOpen k ω)), (0, .ref (ad 120)), (1, .int (nI (k))), (2, .int d), (3, .int g)]) C dX8_burns_121 (by decide) rfl ?_
  refine g_aload_n C dX8_burns_123 rfl 3 rfl ?_
  refine g_iload_n C dX8_burns_124 rfl 4 rfl ?_
  refine g_iconst (v := 5) C dX8_burns_125 (by decide) ?_
  refine g_aload_n C dX8_burns_126 rfl 3 rfl ?_
  refine g_iload_n C dX8_burns_127 rfl 4 rfl ?_
  refine g_iconst (v := 4) C dX8_burns_128 (by decide) ?_
  refine g_callV (rest := [.int 5, .int (nI (k)), .ref (ad 120)]) (st1 := [.int (f_X8_get k 4 ω), .int 5, .int (nI (k)), .ref (ad 120)]) C (c_X8_get k 4 (by omega) (by omega) ω) (cwV 2 C.hts gX8_burns_X8_get rfl rfl rfl md_X8_get ⟨Nat.le_of_ble_eq_true rfl, Nat.le_of_ble_eq_true rfl⟩) (by decide) (mk_11 (by decide)) rfl rfl rfl rfl rfl (Nat.le_of_ble_eq_true rfl) dX8_burns_129 (Nat.zero_le _) (Nat.zero_le _) ?_
  refine g_iconst (v := 1) C dX8_burns_132 (by decide) ?_
  refine g_icmp_ne (tgt := 157) C dX8_burns_133 (by decide) (fun h1 => ?_) (fun h1 => ?_)
  · refine g_iload C dX8_burns_157 1 rfl ?_
    refine g_iload C dX8_burns_159 0 rfl ?_
    refine g_iconst (v := 0) C dX8_burns_161 (by decide) ?_
    refine g_callS (rest := [.int 5, .int (nI (k)), .ref (ad 120)]) (st1 := [.int (f_X8_cooled (f_X8_get k 0 ω) (f_X8_get k 5 ω) 0 ω), .int 5, .int (nI (k)), .ref (ad 120)]) C (c_X8_cooled (f_X8_get k 0 ω) (f_X8_get k 5 ω) 0 ω) (va_cwS 3 C.hts gX8_burns_X8_cooled rfl rfl rfl md_X8_cooled.2 ⟨Nat.le_of_ble_eq_true rfl, Nat.le_of_ble_eq_true rfl⟩) rfl rfl rfl (Nat.le_of_ble_eq_true rfl) dX8_burns_162 (Nat.zero_le _) (Nat.zero_le _) ?_
    refine gv_lv (lv' := [(0, .ref (ad 120)), (1, .int (nI (k))), (2, .int d), (3, .int g), (4, .int (f_X8_isOpen k ω)), (5, .int (f_X8_get k 0 ω)), (6, .int (f_X8_get k 5 ω))]) [3, 4, 5, 6, 2, 1, 0] rfl ?_
    exact k_X8_burns_165 k d g hk C hret hlk (f_X8_isOpen k ω) (f_X8_get k 0 ω) (f_X8_get k 5 ω) (f_X8_cooled (f_X8_get k 0 ω) (f_X8_get k 5 ω) 0 ω) ω hmi _ _ e1 (e2.trans (congrArg (mk X ad) ((if_neg h1).trans rfl)))
  · refine g_iload C dX8_burns_136 1 rfl ?_
    refine g_iload C dX8_burns_138 0 rfl ?_
    refine g_iload C dX8_burns_140 1 rfl ?_
    refine g_aload_n C dX8_burns_142 rfl 3 rfl ?_
    refine g_iload_n C dX8_burns_143 rfl 4 rfl ?_
    refine g_iconst (v := 1) C dX8_burns_144 (by decide) ?_
    refine g_callV (rest := [.int (f_X8_get k 0 ω), .int (f_X8_get k 5 ω), .int (f_X8_get k 0 ω), .int 5, .int (nI (k)), .ref (ad 120)]) (st1 := [.int (f_X8_get k 1 ω), .int (f_X8_get k 0 ω), .int (f_X8_get k 5 ω), .int (f_X8_get k 0 ω), .int 5, .int (nI (k)), .ref (ad 120)]) C (c_X8_get k 1 (by omega) (by omega) ω) (cwV 2 C.hts gX8_burns_X8_get rfl rfl rfl md_X8_get ⟨Nat.le_of_ble_eq_true rfl, Nat.le_of_ble_eq_true rfl⟩) (by decide) (mk_11 (by decide)) rfl rfl rfl rfl rfl (Nat.le_of_ble_eq_true rfl) dX8_burns_145 (Nat.zero_le _) (Nat.zero_le _) ?_
    refine g_callS (rest := [.int (f_X8_get k 5 ω), .int (f_X8_get k 0 ω), .int 5, .int (nI (k)), .ref (ad 120)]) (st1 := [.int (f_X8_heat (f_X8_get k 0 ω) (f_X8_get k 1 ω) ω), .int (f_X8_get k 5 ω), .int (f_X8_get k 0 ω), .int 5, .int (nI (k)), .ref (ad 120)]) C (c_X8_heat (f_X8_get k 0 ω) (f_X8_get k 1 ω) ω) (va_cwS 2 C.hts gX8_burns_X8_heat rfl rfl rfl md_X8_heat.2 ⟨Nat.le_of_ble_eq_true rfl, Nat.le_of_ble_eq_true rfl⟩) rfl rfl rfl (Nat.le_of_ble_eq_true rfl) dX8_burns_148 (Nat.zero_le _) (Nat.zero_le _) ?_
    refine g_callS (rest := [.int 5, .int (nI (k)), .ref (ad 120)]) (st1 := [.int (f_X8_byFlame (f_X8_get k 0 ω) (f_X8_get k 5 ω) (f_X8_heat (f_X8_get k 0 ω) (f_X8_get k 1 ω) ω) ω), .int 5, .int (nI (k)), .ref (ad 120)]) C (c_X8_byFlame (f_X8_get k 0 ω) (f_X8_get k 5 ω) (f_X8_heat (f_X8_get k 0 ω) (f_X8_get k 1 ω) ω) ω) (va_cwS 3 C.hts gX8_burns_X8_byFlame rfl rfl rfl md_X8_byFlame.2 ⟨Nat.le_of_ble_eq_true rfl, Nat.le_of_ble_eq_true rfl⟩) rfl rfl rfl (Nat.le_of_ble_eq_true rfl) dX8_burns_151 (Nat.zero_le _) (Nat.zero_le _) ?_
    refine g_goto (tgt := 165) C dX8_burns_154 (by decide) ?_
    refine gv_lv (lv' := [(0, .ref (ad 120)), (1, .int (nI (k))), (2, .int d), (3, .int g), (4, .int (f_X8_isOpen k ω)), (5, .int (f_X8_get k 0 ω)), (6, .int (f_X8_get k 5 ω))]) [3, 4, 5, 6, 2, 1, 0] rfl ?_
    exact k_X8_burns_165 k d g hk C hret hlk (f_X8_isOpen k ω) (f_X8_get k 0 ω) (f_X8_get k 5 ω) (f_X8_byFlame (f_X8_get k 0 ω) (f_X8_get k 5 ω) (f_X8_heat (f_X8_get k 0 ω) (f_X8_get k 1 ω) ω) ω) ω hmi _ _ e1 (e2.trans (congrArg (mk X ad) ((if_pos h1).trans rfl)))
theorem mi_X8_burns_100 (k : Nat) (d : Int32) (g : Int32) (hk : k < 4) : ∀  (ω : Mem) (hmi : MIn 10 ω), MIn 10 (f_X8_burns_100 k d g ω) := by
  intro ω hmi
  unfold f_X8_burns_100
  have hz1 := hmi.1.2; have hz2 := hmi.2.1.2; have hz3 := hmi.2.2.2
  by_cases h1 : (f_X8_get k 4 ω) = 1
  · rw [if_pos h1]
    exact mi_X8_burns_165 k d g hk (f_X8_isOpen k ω) (f_X8_get k 0 ω) (f_X8_get k 5 ω) (f_X8_byFlame (f_X8_get k 0 ω) (f_X8_get k 5 ω) (f_X8_heat (f_X8_get k 0 ω) (f_X8_get k 1 ω) ω) ω) ω hmi
  · rw [if_neg h1]
    exact mi_X8_burns_165 k d g hk (f_X8_isOpen k ω) (f_X8_get k 0 ω) (f_X8_get k 5 ω) (f_X8_cooled (f_X8_get k 0 ω) (f_X8_get k 5 ω) 0 ω) ω hmi
def f_X8_burns_57 (k : Nat) (d : Int32) (g : Int32) (ω : Mem) : Mem := (if (f_X8_get k 4 ω) = 0 then (if (f_X8_isOpen k ω) = 0 then (f_X8_burns_100 k d g ω) else (if (f_X8_get k 3 ω) = 1 then (if (ω 121 3) ≤ g then (f_X8_burns_100 k d g ω) else (f_X8_burns_100 k d g (f_X8_sparks k d ω))) else (f_X8_burns_100 k d g ω))) else (f_X8_burns_100 k d g ω))
set_option maxRecDepth 100000 in
set_option maxHeartbeats 4000000 in
theorem k_X8_burns_57 {l_ : Launch} {p_ : Program} {e_ : Env} {s_ : State} {m_ : MethodId} {args_ : Array Value} {below_ : List Frame} {meth_ : Method} {c_ : Code} {sa : Nat → Nat} {D : va_G} {X : Nat → ClassId} {ad : Nat → Nat} {G0 : Nat → va_E} (k : Nat) (d : Int32) (g : Int32) (hk : k < 4) (C : GC p_ rm_X8_burns s_ m_ args_ meth_ c_ cX8_burns 9 wsX8_burns RX8 sa D (tyX X) (va_A (gw 128 ad G0) s_.heap.size)) (hret : meth_.sig.returnType = none) (hlk : meth_.locks = false) : ∀  (ω : Mem) (hmi : MIn 10 ω) (rv : Option Value) (G2 : Nat → va_E) (e1 : rv = none) (e2 : G2 = mk X ad (f_X8_burns_57 k d g ω)), GV p_ l_ e_ rm_X8_burns s_ m_ args_ below_ meth_ c_ 0 0 (CQ below_ args_ s_ D 128 ad G0 rv G2) D (va_A (gw 128 ad G0) s_.heap.size) 9 128 ad (mk X ad ω) [(0, .ref (ad 120)), (1, .int (nI (k))), (2, .int d), (3, .int g)] 57 [] := by
  have iX8 : ∀ w ∈ u_ws RX8 TX8 14, w ∈ wsX8_burns := by decide +kernel
  have L7 : Cond.fieldLink RX8 7 (TX8 1).1 (TX8 1).2.1 (TX8 1).2.2.1 ∈ wsX8_burns := by decide +kernel
  intro ω hmi rv G2 e1 e2
  refine g_aload_n C dX8_burns_57 rfl 0 rfl ?_
  refine g_iload_n C dX8_burns_58 rfl 1 rfl ?_
  refine g_iconst (v := 4) C dX8_burns_59 (by decide) ?_
  refine g_callV (rest := []) (st1 := [.int (f_X8_get k 4 ω)]) C (c_X8_get k 4 (by omega) (by omega) ω) (cwV 2 C.hts gX8_burns_X8_get rfl rfl rfl md_X8_get ⟨Nat.le_of_ble_eq_true rfl, Nat.le_of_ble_eq_true rfl⟩) (by decide) (mk_11 (by decide)) rfl rfl rfl rfl rfl (Nat.le_of_ble_eq_true rfl) dX8_burns_60 (Nat.zero_le _) (Nat.zero_le _) ?_
  refine g_if_ne (tgt := 100) C dX8_burns_63 (by decide) (fun h1 => ?_) (fun h1 => ?_)
  · exact k_X8_burns_100 k d g hk C hret hlk  ω hmi _ _ e1 (e2.trans (congrArg (mk X ad) ((if_neg h1).trans rfl)))
  · refine g_aload_n C dX8_burns_66 rfl 0 rfl ?_
    refine g_iload_n C dX8_burns_67 rfl 1 rfl ?_
    refine g_callV (rest := []) (st1 := [.int (f_X8_isOpen k ω)]) C (c_X8_isOpen k (by omega) ω) (cwV 1 C.hts gX8_burns_X8_isOpen rfl rfl rfl md_X8_isOpen ⟨Nat.le_of_ble_eq_true rfl, Nat.le_of_ble_eq_true rfl⟩) (by decide) (mk_11 (by decide)) rfl rfl rfl rfl rfl (Nat.le_of_ble_eq_true rfl) dX8_burns_68 (Nat.zero_le _) (Nat.zero_le _) ?_
    refine g_if_eq (tgt := 100) C dX8_burns_71 (by decide) (fun h2 => ?_) (fun h2 => ?_)
    · exact k_X8_burns_100 k d g hk C hret hlk  ω hmi _ _ e1 (e2.trans (congrArg (mk X ad) ((if_pos h1).trans ((if_pos h2).trans rfl))))
    · refine g_aload_n C dX8_burns_74 rfl 0 rfl ?_
      refine g_iload_n C dX8_burns_75 rfl 1 rfl ?_
      refine g_iconst (v := 3) C dX8_burns_76 (by decide) ?_
      refine g_callV (rest := []) (st1 := [.int (f_X8_get k 3 ω)]) C (c_X8_get k 3 (by omega) (by omega) ω) (cwV 2 C.hts gX8_burns_X8_get rfl rfl rfl md_X8_get ⟨Nat.le_of_ble_eq_true rfl, Nat.le_of_ble_eq_true rfl⟩) (by decide) (mk_11 (by decide)) rfl rfl rfl rfl rfl (Nat.le_of_ble_eq_true rfl) dX8_burns_77 (Nat.zero_le _) (Nat.zero_le _) ?_
      refine g_iconst (v := 1) C dX8_burns_80 (by decide) ?_
      refine g_icmp_ne (tgt := 100) C dX8_burns_81 (by decide) (fun h3 => ?_) (fun h3 => ?_)
      · exact k_X8_burns_100 k d g hk C hret hlk  ω hmi _ _ e1 (e2.trans (congrArg (mk X ad) ((if_pos h1).trans ((if_neg h2).trans ((if_neg h3).trans rfl)))))
      · refine g_iload_n C dX8_burns_84 rfl 3 rfl ?_
        refine g_aload_n C dX8_burns_85 rfl 0 rfl ?_
        refine g_get (v := .ref (ad 121)) C iX8 (by decide) (mk_11 (by decide)) rfl 1 (by decide) L7 rfl dX8_burns_86 ?_
        refine g_iconst (v := 3) C dX8_burns_89 (by decide) ?_
        refine g_iald (k := 3) C 0 (by decide) (mk_12n (N := 108) (by decide) (by decide)) rfl (by unfold vp_in; decide) rfl dX8_burns_90 ?_
        refine g_icmp_ge (tgt := 100) C dX8_burns_91 (by decide) (fun h4 => ?_) (fun h4 => ?_)
        · exact k_X8_burns_100 k d g hk C hret hlk  ω hmi _ _ e1 (e2.trans (congrArg (mk X ad) ((if_pos h1).trans ((if_neg h2).trans ((if_pos h3).trans ((if_pos h4).trans rfl))))))
        · refine g_aload_n C dX8_burns_94 rfl 0 rfl ?_
          refine g_iload_n C dX8_burns_95 rfl 1 rfl ?_
          refine g_iload_n C dX8_burns_96 rfl 2 rfl ?_
          refine g_callV (rest := []) (st1 := []) C (c_X8_sparks k d (by omega) ω hmi) (cwV 2 C.hts gX8_burns_X8_sparks rfl rfl rfl md_X8_sparks ⟨Nat.le_of_ble_eq_true rfl, Nat.le_of_ble_eq_true rfl⟩) (by decide) (mk_11 (by decide)) rfl rfl rfl rfl rfl (Nat.le_of_ble_eq_true rfl) dX8_burns_97 (Nat.zero_le _) (Nat.zero_le _) ?_
          exact k_X8_burns_100 k d g hk C hret hlk  (f_X8_sparks k d ω) (mi_X8_sparks k d (by omega) ω hmi) _ _ e1 (e2.trans (congrArg (mk X ad) ((if_pos h1).trans ((if_neg h2).trans ((if_pos h3).trans ((if_neg h4).trans rfl))))))
theorem mi_X8_burns_57 (k : Nat) (d : Int32) (g : Int32) (hk : k < 4) : ∀  (ω : Mem) (hmi : MIn 10 ω), MIn 10 (f_X8_burns_57 k d g ω) := by
  intro ω hmi
  unfold f_X8_burns_57
  have hz1 := hmi.1.2; have hz2 := hmi.2.1.2; have hz3 := hmi.2.2.2
  by_cases h1 : (f_X8_get k 4 ω) = 0
  · rw [if_pos h1]
    by_cases h2 : (f_X8_isOpen k ω) = 0
    · rw [if_pos h2]
      exact mi_X8_burns_100 k d g hk  ω hmi
    · rw [if_neg h2]
      by_cases h3 : (f_X8_get k 3 ω) = 1
      · rw [if_pos h3]
        by_cases h4 : (ω 121 3) ≤ g
        · rw [if_pos h4]
          exact mi_X8_burns_100 k d g hk  ω hmi
        · rw [if_neg h4]
          exact mi_X8_burns_100 k d g hk  (f_X8_sparks k d ω) (mi_X8_sparks k d (by omega) ω hmi)
      · rw [if_neg h3]
        exact mi_X8_burns_100 k d g hk  ω hmi
  · rw [if_neg h1]
    exact mi_X8_burns_100 k d g hk  ω hmi
def f_X8_burns_25 (k : Nat) (d : Int32) (g : Int32) (ω : Mem) : Mem := (if (f_X8_get k 4 ω) = 1 then (if d ≤ (f_X8_strength k ω) then (f_X8_burns_57 k d g ω) else (f_X8_burns_57 k d g (f_X8_tells 1 (nI (k)) (f_X8_lay k 4 0 ω)))) else (f_X8_burns_57 k d g ω))
set_option maxRecDepth 100000 in
set_option maxHeartbeats 4000000 in
theorem k_X8_burns_25 {l_ : Launch} {p_ : Program} {e_ : Env} {s_ : State} {m_ : MethodId} {args_ : Array Value} {below_ : List Frame} {meth_ : Method} {c_ : Code} {sa : Nat → Nat} {D : va_G} {X : Nat → ClassId} {ad : Nat → Nat} {G0 : Nat → va_E} (k : Nat) (d : Int32) (g : Int32) (hk : k < 4) (C : GC p_ rm_X8_burns s_ m_ args_ meth_ c_ cX8_burns 9 wsX8_burns RX8 sa D (tyX X) (va_A (gw 128 ad G0) s_.heap.size)) (hret : meth_.sig.returnType = none) (hlk : meth_.locks = false) : ∀  (ω : Mem) (hmi : MIn 10 ω) (rv : Option Value) (G2 : Nat → va_E) (e1 : rv = none) (e2 : G2 = mk X ad (f_X8_burns_25 k d g ω)), GV p_ l_ e_ rm_X8_burns s_ m_ args_ below_ meth_ c_ 0 0 (CQ below_ args_ s_ D 128 ad G0 rv G2) D (va_A (gw 128 ad G0) s_.heap.size) 9 128 ad (mk X ad ω) [(0, .ref (ad 120)), (1, .int (nI (k))), (2, .int d), (3, .int g)] 25 [] := by
  intro ω hmi rv G2 e1 e2
  refine g_aload_n C dX8_burns_25 rfl 0 rfl ?_
  refine g_iload_n C dX8_burns_26 rfl 1 rfl ?_
  refine g_iconst (v := 4) C dX8_burns_27 (by decide) ?_
  refine g_callV (rest := []) (st1 := [.int (f_X8_get k 4 ω)]) C (c_X8_get k 4 (by omega) (by omega) ω) (cwV 2 C.hts gX8_burns_X8_get rfl rfl rfl md_X8_get ⟨Nat.le_of_ble_eq_true rfl, Nat.le_of_ble_eq_true rfl⟩) (by decide) (mk_11 (by decide)) rfl rfl rfl rfl rfl (Nat.le_of_ble_eq_true rfl) dX8_burns_28 (Nat.zero_le _) (Nat.zero_le _) ?_
  refine g_iconst (v := 1) C dX8_burns_31 (by decide) ?_
  refine g_icmp_ne (tgt := 57) C dX8_burns_32 (by decide) (fun h1 => ?_) (fun h1 => ?_)
  · exact k_X8_burns_57 k d g hk C hret hlk  ω hmi _ _ e1 (e2.trans (congrArg (mk X ad) ((if_neg h1).trans rfl)))
  · refine g_iload_n C dX8_burns_35 rfl 2 rfl ?_
    refine g_aload_n C dX8_burns_36 rfl 0 rfl ?_
    refine g_iload_n C dX8_burns_37 rfl 1 rfl ?_
    refine g_callV (rest := [.int d]) (st1 := [.int (f_X8_strength k ω), .int d]) C (c_X8_strength k (by omega) ω) (cwV 1 C.hts gX8_burns_X8_strength rfl rfl rfl md_X8_strength ⟨Nat.le_of_ble_eq_true rfl, Nat.le_of_ble_eq_true rfl⟩) (by decide) (mk_11 (by decide)) rfl rfl rfl rfl rfl (Nat.le_of_ble_eq_true rfl) dX8_burns_38 (Nat.zero_le _) (Nat.zero_le _) ?_
    refine g_icmp_le (tgt := 57) C dX8_burns_41 (by decide) (fun h2 => ?_) (fun h2 => ?_)
    · exact k_X8_burns_57 k d g hk C hret hlk  ω hmi _ _ e1 (e2.trans (congrArg (mk X ad) ((if_pos h1).trans ((if_pos h2).trans rfl))))
    · refine g_aload_n C dX8_burns_44 rfl 0 rfl ?_
      refine g_iload_n C dX8_burns_45 rfl 1 rfl ?_
      refine g_iconst (v := 4) C dX8_burns_46 (by decide) ?_
      refine g_iconst (v := 0) C dX8_burns_47 (by decide) ?_
      refine g_callV (rest := []) (st1 := []) C (c_X8_lay k 4 0 (by omega) (by omega) ω hmi) (cwV 3 C.hts gX8_burns_X8_lay rfl rfl rfl md_X8_lay ⟨Nat.le_of_ble_eq_true rfl, Nat.le_of_ble_eq_true rfl⟩) (by decide) (mk_11 (by decide)) rfl rfl rfl rfl rfl (Nat.le_of_ble_eq_true rfl) dX8_burns_48 (Nat.zero_le _) (Nat.zero_le _) ?_
      refine g_aload_n C dX8_burns_51 rfl 0 rfl ?_
      refine g_iconst (v := 1) C dX8_burns_52 (by decide) ?_
      refine g_iload_n C dX8_burns_53 rfl 1 rfl ?_
      refine g_callV (rest := []) (st1 := []) C (c_X8_tells 1 (nI (k)) (by omega) (f_X8_lay k 4 0 ω) (mi_X8_lay k 4 0 (by omega) (by omega) ω hmi)) (cwV 2 C.hts gX8_burns_X8_tells rfl rfl rfl md_X8_tells ⟨Nat.le_of_ble_eq_true rfl, Nat.le_of_ble_eq_true rfl⟩) (by decide) (mk_11 (by decide)) rfl rfl rfl rfl rfl (Nat.le_of_ble_eq_true rfl) dX8_burns_54 (Nat.zero_le _) (Nat.zero_le _) ?_
      exact k_X8_burns_57 k d g hk C hret hlk  (f_X8_tells 1 (nI (k)) (f_X8_lay k 4 0 ω)) (mi_X8_tells 1 (nI (k)) (by omega) (f_X8_lay k 4 0 ω) (mi_X8_lay k 4 0 (by omega) (by omega) ω hmi)) _ _ e1 (e2.trans (congrArg (mk X ad) ((if_pos h1).trans ((if_neg h2).trans rfl))))
theorem mi_X8_burns_25 (k : Nat) (d : Int32) (g : Int32) (hk : k < 4) : ∀  (ω : Mem) (hmi : MIn 10 ω), MIn 10 (f_X8_burns_25 k d g ω) := by
  intro ω hmi
  unfold f_X8_burns_25
  have hz1 := hmi.1.2; have hz2 := hmi.2.1.2; have hz3 := hmi.2.2.2
  by_cases h1 : (f_X8_get k 4 ω) = 1
  · rw [if_pos h1]
    by_cases h2 : d ≤ (f_X8_strength k ω)
    · rw [if_pos h2]
      exact mi_X8_burns_57 k d g hk  ω hmi
    · rw [if_neg h2]
      exact mi_X8_burns_57 k d g hk  (f_X8_tells 1 (nI (k)) (f_X8_lay k 4 0 ω)) (mi_X8_tells 1 (nI (k)) (by omega) (f_X8_lay k 4 0 ω) (mi_X8_lay k 4 0 (by omega) (by omega) ω hmi))
  · rw [if_neg h1]
    exact mi_X8_burns_57 k d g hk  ω hmi
def f_X8_burns (k : Nat) (d : Int32) (g : Int32) (ω : Mem) : Mem := (if (f_X8_get k 4 ω) = 1 then (if (f_X8_isOpen k ω) = 0 then (f_X8_burns_25 k d g (f_X8_lay k 4 0 ω)) else (f_X8_burns_25 k d g ω)) else (f_X8_burns_25 k d g ω))
theorem mi_X8_burns (k : Nat) (d : Int32) (g : Int32) (hk : k < 4) (ω : Mem) (hmi : MIn 10 ω) : MIn 10 (f_X8_burns k d g ω) := by
  unfold f_X8_burns
  have hz1 := hmi.1.2; have hz2 := hmi.2.1.2; have hz3 := hmi.2.2.2
  by_cases h1 : (f_X8_get k 4 ω) = 1
  · rw [if_pos h1]
    by_cases h2 : (f_X8_isOpen k ω) = 0
    · rw [if_pos h2]
      exact mi_X8_burns_25 k d g hk  (f_X8_lay k 4 0 ω) (mi_X8_lay k 4 0 (by omega) (by omega) ω hmi)
    · rw [if_neg h2]
      exact mi_X8_burns_25 k d g hk  ω hmi
  · rw [if_neg h1]
    exact mi_X8_burns_25 k d g hk  ω hmi
set_option maxRecDepth 100000 in
set_option maxHeartbeats 4000000 in
theorem c_X8_burns {l_ : Launch} {sa : Nat → Nat} {D : va_G} {X : Nat → ClassId} {ad : Nat → Nat} (k : Nat) (d : Int32) (g : Int32) (hk : k < 4) (ω : Mem) (hmi : MIn 10 ω) : CT l_ yX8_burns wsX8_burns rm_X8_burns sa D (tyX X) 128 ad (mk X ad ω) [.ref (ad 120), .int (nI (k)), .int d, .int g] (none : Option Value) (mk X ad (f_X8_burns k d g ω)) := by
  refine ct_of [(0, .ref (ad 120)), (1, .int (nI (k))), (2, .int d), (3, .int g)] (by decide +kernel) rfl rfl (Nat.le_of_ble_eq_true rfl) rfl ?_
  intro p_ e_ s_ m_ args_ below_ meth_ c_ C hret hlk hin
  have e1 : (none : Option Value) = (none : Option Value) := rfl
  have e2 : mk X ad (f_X8_burns k d g ω) = mk X ad (f_X8_burns k d g ω) := rfl
  refine g_aload_n C dX8_burns_0 rfl 0 rfl ?_
  refine g_iload_n C dX8_burns_1 rfl 1 rfl ?_
  refine g_iconst (v := 4) C dX8_burns_2 (by decide) ?_
  refine g_callV (rest := []) (st1 := [.int (f_X8_get k 4 ω)]) C (c_X8_get k 4 (by omega) (by omega) ω) (cwV 2 C.hts gX8_burns_X8_get rfl rfl rfl md_X8_get ⟨Nat.le_of_ble_eq_true rfl, Nat.le_of_ble_eq_true rfl⟩) (by decide) (mk_11 (by decide)) rfl rfl rfl rfl rfl (Nat.le_of_ble_eq_true rfl) dX8_burns_3 (Nat.zero_le _) (Nat.zero_le _) ?_
  refine g_iconst (v := 1) C dX8_burns_6 (by decide) ?_
  refine g_icmp_ne (tgt := 25) C dX8_burns_7 (by decide) (fun h1 => ?_) (fun h1 => ?_)
  · exact k_X8_burns_25 k d g hk C hret hlk  ω hmi _ _ e1 (e2.trans (congrArg (mk X ad) ((if_neg h1).trans rfl)))
  · refine g_aload_n C dX8_burns_10 rfl 0 rfl ?_
    refine g_iload_n C dX8_burns_11 rfl 1 rfl ?_
    refine g_callV (rest := []) (st1 := [.int (f_X8_isOpen k ω)]) C (c_X8_isOpen k (by omega) ω) (cwV 1 C.hts gX8_burns_X8_isOpen rfl rfl rfl md_X8_isOpen ⟨Nat.le_of_ble_eq_true rfl, Nat.le_of_ble_eq_true rfl⟩) (by decide) (mk_11 (by decide)) rfl rfl rfl rfl rfl (Nat.le_of_ble_eq_true rfl) dX8_burns_12 (Nat.zero_le _) (Nat.zero_le _) ?_
    refine g_if_ne (tgt := 25) C dX8_burns_15 (by decide) (fun h2 => ?_) (fun h2 => ?_)
    · exact k_X8_burns_25 k d g hk C hret hlk  ω hmi _ _ e1 (e2.trans (congrArg (mk X ad) ((if_pos h1).trans ((if_neg h2).trans rfl))))
    · refine g_aload_n C dX8_burns_18 rfl 0 rfl ?_
      refine g_iload_n C dX8_burns_19 rfl 1 rfl ?_
      refine g_iconst (v := 4) C dX8_burns_20 (by decide) ?_
      refine g_iconst (v := 0) C dX8_burns_21 (by decide) ?_
      refine g_callV (rest := []) (st1 := []) C (c_X8_lay k 4 0 (by omega) (by omega) ω hmi) (cwV 3 C.hts gX8_burns_X8_lay rfl rfl rfl md_X8_lay ⟨Nat.le_of_ble_eq_true rfl, Nat.le_of_ble_eq_true rfl⟩) (by decide) (mk_11 (by decide)) rfl rfl rfl rfl rfl (Nat.le_of_ble_eq_true rfl) dX8_burns_22 (Nat.zero_le _) (Nat.zero_le _) ?_
      exact k_X8_burns_25 k d g hk C hret hlk  (f_X8_lay k 4 0 ω) (mi_X8_lay k 4 0 (by omega) (by omega) ω hmi) _ _ e1 (e2.trans (congrArg (mk X ad) ((if_pos h1).trans ((if_pos h2).trans rfl))))
abbrev rm_X8_ticks : Room := { frames := 5, cells := 0, slots := 0, locals := 115 }
theorem md_X8_ticks : yX8_ticks.cls = RX8 ∧ yX8_ticks.cls ≠ "java/lang/invoke/MethodHandle" ∧ yX8_ticks.cls ≠ "java/lang/invoke/VarHandle" ∧ (parseMethodDescriptor yX8_ticks.desc).map (fun d => d.parameters.length) = some 0 := by decide +kernel
def f_X8_ticks_119 (v1 : Int32) (v2 : Int32) (ω : Mem) : Mem := (st ω 121 4 ((ω 121 4) + 1))
set_option maxRecDepth 100000 in
set_option maxHeartbeats 4000000 in
theorem k_X8_ticks_119 {l_ : Launch} {p_ : Program} {e_ : Env} {s_ : State} {m_ : MethodId} {args_ : Array Value} {below_ : List Frame} {meth_ : Method} {c_ : Code} {sa : Nat → Nat} {D : va_G} {X : Nat → ClassId} {ad : Nat → Nat} {G0 : Nat → va_E}  (C : GC p_ rm_X8_ticks s_ m_ args_ meth_ c_ cX8_ticks 4 wsX8_ticks RX8 sa D (tyX X) (va_A (gw 128 ad G0) s_.heap.size)) (hret : meth_.sig.returnType = none) (hlk : meth_.locks = false) : ∀ (v1 : Int32) (v2 : Int32) (ω : Mem) (hmi : MIn 10 ω) (rv : Option Value) (G2 : Nat → va_E) (e1 : rv = none) (e2 : G2 = mk X ad (f_X8_ticks_119 v1 v2 ω)), GV p_ l_ e_ rm_X8_ticks s_ m_ args_ below_ meth_ c_ 0 0 (CQ below_ args_ s_ D 128 ad G0 rv G2) D (va_A (gw 128 ad G0) s_.heap.size) 4 128 ad (mk X ad ω) [(0, .ref (ad 120)), (1, .int v1), (2, .int v2), (3, .int 4)] 119 [] := by
  have iX8 : ∀ w ∈ u_ws RX8 TX8 14, w ∈ wsX8_ticks := by decide +kernel
  have L7 : Cond.fieldLink RX8 7 (TX8 1).1 (TX8 1).2.1 (TX8 1).2.2.1 ∈ wsX8_ticks := by decide +kernel
  intro v1 v2 ω hmi rv G2 e1 e2
  refine g_aload_n C dX8_ticks_119 rfl 0 rfl ?_
  refine g_get (v := .ref (ad 121)) C iX8 (by decide) (mk_11 (by decide)) rfl 1 (by decide) L7 rfl dX8_ticks_120 ?_
  refine g_iconst (v := 4) C dX8_ticks_123 (by decide) ?_
  refine g_dup2 C dX8_ticks_124 rfl rfl ?_
  refine g_iald (k := 4) C 0 (by decide) (mk_12n (N := 108) (by decide) (by decide)) rfl (by unfold vp_in; decide) rfl dX8_ticks_125 ?_
  refine g_iconst (v := 1) C dX8_ticks_126 (by decide) ?_
  refine g_iadd (v := ((ω 121 4) + 1)) C dX8_ticks_127 rfl ?_
  refine g_iast (k := 4) C 0 (by decide) (mk_12n (N := 108) (by decide) (by decide)) rfl (by unfold vp_in; decide) rfl dX8_ticks_128 ?_
  refine gv_eqG (mk_row (N := 108) (by decide) (by decide)) ?_
  exact g_vret C hret hlk e1 (e2.trans (congrArg (mk X ad) rfl)) dX8_ticks_129
theorem mi_X8_ticks_119  : ∀ (v1 : Int32) (v2 : Int32) (ω : Mem) (hmi : MIn 10 ω), MIn 10 (f_X8_ticks_119 v1 v2 ω) := by
  intro v1 v2 ω hmi
  unfold f_X8_ticks_119
  have hz1 := hmi.1.2; have hz2 := hmi.2.1.2; have hz3 := hmi.2.2.2
  exact (MIn_s hmi (by omega) (by omega))
def f_X8_ticks_118 (v1 : Int32) (v2 : Int32) (w0 : Int32) (ω : Mem) : Mem := (f_X8_ticks_119 v1 v2 (st ω 121 5 w0))
set_option maxRecDepth 100000 in
set_option maxHeartbeats 4000000 in
theorem k_X8_ticks_118 {l_ : Launch} {p_ : Program} {e_ : Env} {s_ : State} {m_ : MethodId} {args_ : Array Value} {below_ : List Frame} {meth_ : Method} {c_ : Code} {sa : Nat → Nat} {D : va_G} {X : Nat → ClassId} {ad : Nat → Nat} {G0 : Nat → va_E}  (C : GC p_ rm_X8_ticks s_ m_ args_ meth_ c_ cX8_ticks 4 wsX8_ticks RX8 sa D (tyX X) (va_A (gw 128 ad G0) s_.heap.size)) (hret : meth_.sig.returnType = none) (hlk : meth_.locks = false) : ∀ (v1 : Int32) (v2 : Int32) (w0 : Int32) (ω : Mem) (hmi : MIn 10 ω) (rv : Option Value) (G2 : Nat → va_E) (e1 : rv = none) (e2 : G2 = mk X ad (f_X8_ticks_118 v1 v2 w0 ω)), GV p_ l_ e_ rm_X8_ticks s_ m_ args_ below_ meth_ c_ 0 0 (CQ below_ args_ s_ D 128 ad G0 rv G2) D (va_A (gw 128 ad G0) s_.heap.size) 4 128 ad (mk X ad ω) [(0, .ref (ad 120)), (1, .int v1), (2, .int v2), (3, .int 4)] 118 [.int w0, .int 5, .ref (ad 121)] := by
  intro v1 v2 w0 ω hmi rv G2 e1 e2
  refine g_iast (k := 5) C 0 (by decide) (mk_12n (N := 108) (by decide) (by decide)) rfl (by unfold vp_in; decide) rfl dX8_ticks_118 ?_
  refine gv_eqG (mk_row (N := 108) (by decide) (by decide)) ?_
  exact k_X8_ticks_119   C hret hlk v1 v2 (st ω 121 5 w0) (MIn_s hmi (by omega) (by omega)) _ _ e1 (e2.trans (congrArg (mk X ad) rfl))
theorem mi_X8_ticks_118  : ∀ (v1 : Int32) (v2 : Int32) (w0 : Int32) (ω : Mem) (hmi : MIn 10 ω), MIn 10 (f_X8_ticks_118 v1 v2 w0 ω) := by
  intro v1 v2 w0 ω hmi
  unfold f_X8_ticks_118
  have hz1 := hmi.1.2; have hz2 := hmi.2.1.2; have hz3 := hmi.2.2.2
  exact mi_X8_ticks_119   v1 v2 (st ω 121 5 w0) (MIn_s hmi (by omega) (by omega))
def f_X8_ticks_77 (v1 : Int32) (v2 : Int32) (ω : Mem) : Mem := (if ((ω 121 2) + v1) ≤ (ω 121 5) then (f_X8_ticks_118 v1 v2 (((ω 121 5) - (ω 121 2)) - v1) ω) else (f_X8_ticks_118 v1 v2 0 ω))
set_option maxRecDepth 100000 in
set_option maxHeartbeats 4000000 in
theorem k_X8_ticks_77 {l_ : Launch} {p_ : Program} {e_ : Env} {s_ : State} {m_ : MethodId} {args_ : Array Value} {below_ : List Frame} {meth_ : Method} {c_ : Code} {sa : Nat → Nat} {D : va_G} {X : Nat → ClassId} {ad : Nat → Nat} {G0 : Nat → va_E}  (C : GC p_ rm_X8_ticks s_ m_ args_ meth_ c_ cX8_ticks 4 wsX8_ticks RX8 sa D (tyX X) (va_A (gw 128 ad G0) s_.heap.size)) (hret : meth_.sig.returnType = none) (hlk : meth_.locks = false) : ∀ (v1 : Int32) (v2 : Int32) (ω : Mem) (hmi : MIn 10 ω) (rv : Option Value) (G2 : Nat → va_E) (e1 : rv = none) (e2 : G2 = mk X ad (f_X8_ticks_77 v1 v2 ω)), GV p_ l_ e_ rm_X8_ticks s_ m_ args_ below_ meth_ c_ 0 0 (CQ below_ args_ s_ D 128 ad G0 rv G2) D (va_A (gw 128 ad G0) s_.heap.size) 4 128 ad (mk X ad ω) [(0, .ref (ad 120)), (1, .int v1), (2, .int v2), (3, .int 4)] 77 [] := by
  have iX8 : ∀ w ∈ u_ws RX8 TX8 14, w ∈ wsX8_ticks := by decide +kernel
  have L7 : Cond.fieldLink RX8 7 (TX8 1).1 (TX8 1).2.1 (TX8 1).2.2.1 ∈ wsX8_ticks := by decide +kernel
  intro v1 v2 ω hmi rv G2 e1 e2
  refine g_aload_n C dX8_ticks_77 rfl 0 rfl ?_
  refine g_get (v := .ref (ad 121)) C iX8 (by decide) (mk_11 (by decide)) rfl 1 (by decide) L7 rfl dX8_ticks_78 ?_
  refine g_iconst (v := 5) C dX8_ticks_81 (by decide) ?_
  refine g_aload_n C dX8_ticks_82 rfl 0 rfl ?_
  refine g_get (v := .ref (ad 121)) C iX8 (by decide) (mk_11 (by decide)) rfl 1 (by decide) L7 rfl dX8_ticks_83 ?_
  refine g_iconst (v := 5) C dX8_ticks_86 (by decide) ?_
  refine g_iald (k := 5) C 0 (by decide) (mk_12n (N := 108) (by decide) (by decide)) rfl (by unfold vp_in; decide) rfl dX8_ticks_87 ?_
  refine g_aload_n C dX8_ticks_88 rfl 0 rfl ?_
  refine g_get (v := .ref (ad 121)) C iX8 (by decide) (mk_11 (by decide)) rfl 1 (by decide) L7 rfl dX8_ticks_89 ?_
  refine g_iconst (v := 2) C dX8_ticks_92 (by decide) ?_
  refine g_iald (k := 2) C 0 (by decide) (mk_12n (N := 108) (by decide) (by decide)) rfl (by unfold vp_in; decide) rfl dX8_ticks_93 ?_
  refine g_iload_n C dX8_ticks_94 rfl 1 rfl ?_
  refine g_iadd (v := ((ω 121 2) + v1)) C dX8_ticks_95 rfl ?_
  refine g_icmp_ge (tgt := 103) C dX8_ticks_96 (by decide) (fun h1 => ?_) (fun h1 => ?_)
  · refine g_aload_n C dX8_ticks_103 rfl 0 rfl ?_
    refine g_get (v := .ref (ad 121)) C iX8 (by decide) (mk_11 (by decide)) rfl 1 (by decide) L7 rfl dX8_ticks_104 ?_
    refine g_iconst (v := 5) C dX8_ticks_107 (by decide) ?_
    refine g_iald (k := 5) C 0 (by decide) (mk_12n (N := 108) (by decide) (by decide)) rfl (by unfold vp_in; decide) rfl dX8_ticks_108 ?_
    refine g_aload_n C dX8_ticks_109 rfl 0 rfl ?_
    refine g_get (v := .ref (ad 121)) C iX8 (by decide) (mk_11 (by decide)) rfl 1 (by decide) L7 rfl dX8_ticks_110 ?_
    refine g_iconst (v := 2) C dX8_ticks_113 (by decide) ?_
    refine g_iald (k := 2) C 0 (by decide) (mk_12n (N := 108) (by decide) (by decide)) rfl (by unfold vp_in; decide) rfl dX8_ticks_114 ?_
    refine g_isub (v := ((ω 121 5) - (ω 121 2))) C dX8_ticks_115 rfl ?_
    refine g_iload_n C dX8_ticks_116 rfl 1 rfl ?_
    refine g_isub (v := (((ω 121 5) - (ω 121 2)) - v1)) C dX8_ticks_117 rfl ?_
    exact k_X8_ticks_118   C hret hlk v1 v2 (((ω 121 5) - (ω 121 2)) - v1) ω hmi _ _ e1 (e2.trans (congrArg (mk X ad) ((if_pos h1).trans rfl)))
  · refine g_iconst (v := 0) C dX8_ticks_99 (by decide) ?_
    refine g_goto (tgt := 118) C dX8_ticks_100 (by decide) ?_
    exact k_X8_ticks_118   C hret hlk v1 v2 0 ω hmi _ _ e1 (e2.trans (congrArg (mk X ad) ((if_neg h1).trans rfl)))
theorem mi_X8_ticks_77  : ∀ (v1 : Int32) (v2 : Int32) (ω : Mem) (hmi : MIn 10 ω), MIn 10 (f_X8_ticks_77 v1 v2 ω) := by
  intro v1 v2 ω hmi
  unfold f_X8_ticks_77
  have hz1 := hmi.1.2; have hz2 := hmi.2.1.2; have hz3 := hmi.2.2.2
  by_cases h1 : ((ω 121 2) + v1) ≤ (ω 121 5)
  · rw [if_pos h1]
    exact mi_X8_ticks_118   v1 v2 (((ω 121 5) - (ω 121 2)) - v1) ω hmi
  · rw [if_neg h1]
    exact mi_X8_ticks_118   v1 v2 0 ω hmi
def f_X8_ticks_76 (v1 : Int32) (v2 : Int32) (w0 : Int32) (ω : Mem) : Mem := (f_X8_ticks_77 v1 v2 (st ω 121 6 w0))
set_option maxRecDepth 100000 in
set_option maxHeartbeats 4000000 in
theorem k_X8_ticks_76 {l_ : Launch} {p_ : Program} {e_ : Env} {s_ : State} {m_ : MethodId} {args_ : Array Value} {below_ : List Frame} {meth_ : Method} {c_ : Code} {sa : Nat → Nat} {D : va_G} {X : Nat → ClassId} {ad : Nat → Nat} {G0 : Nat → va_E}  (C : GC p_ rm_X8_ticks s_ m_ args_ meth_ c_ cX8_ticks 4 wsX8_ticks RX8 sa D (tyX X) (va_A (gw 128 ad G0) s_.heap.size)) (hret : meth_.sig.returnType = none) (hlk : meth_.locks = false) : ∀ (v1 : Int32) (v2 : Int32) (w0 : Int32) (ω : Mem) (hmi : MIn 10 ω) (rv : Option Value) (G2 : Nat → va_E) (e1 : rv = none) (e2 : G2 = mk X ad (f_X8_ticks_76 v1 v2 w0 ω)), GV p_ l_ e_ rm_X8_ticks s_ m_ args_ below_ meth_ c_ 0 0 (CQ below_ args_ s_ D 128 ad G0 rv G2) D (va_A (gw 128 ad G0) s_.heap.size) 4 128 ad (mk X ad ω) [(0, .ref (ad 120)), (1, .int v1), (2, .int v2), (3, .int 4)] 76 [.int w0, .int 6, .ref (ad 121)] := by
  intro v1 v2 w0 ω hmi rv G2 e1 e2
  refine g_iast (k := 6) C 0 (by decide) (mk_12n (N := 108) (by decide) (by decide)) rfl (by unfold vp_in; decide) rfl dX8_ticks_76 ?_
  refine gv_eqG (mk_row (N := 108) (by decide) (by decide)) ?_
  exact k_X8_ticks_77   C hret hlk v1 v2 (st ω 121 6 w0) (MIn_s hmi (by omega) (by omega)) _ _ e1 (e2.trans (congrArg (mk X ad) rfl))
theorem mi_X8_ticks_76  : ∀ (v1 : Int32) (v2 : Int32) (w0 : Int32) (ω : Mem) (hmi : MIn 10 ω), MIn 10 (f_X8_ticks_76 v1 v2 w0 ω) := by
  intro v1 v2 w0 ω hmi
  unfold f_X8_ticks_76
  have hz1 := hmi.1.2; have hz2 := hmi.2.1.2; have hz3 := hmi.2.2.2
  exact mi_X8_ticks_77   v1 v2 (st ω 121 6 w0) (MIn_s hmi (by omega) (by omega))
def f_X8_ticks_38 (v1 : Int32) (v2 : Int32) (ω : Mem) : Mem := (if (ω 121 5) ≤ (ω 121 6) then (f_X8_ticks_76 v1 v2 (ω 121 6) ω) else (f_X8_ticks_76 v1 v2 (ω 121 5) ω))
set_option maxRecDepth 100000 in
set_option maxHeartbeats 4000000 in
theorem k_X8_ticks_38 {l_ : Launch} {p_ : Program} {e_ : Env} {s_ : State} {m_ : MethodId} {args_ : Array Value} {below_ : List Frame} {meth_ : Method} {c_ : Code} {sa : Nat → Nat} {D : va_G} {X : Nat → ClassId} {ad : Nat → Nat} {G0 : Nat → va_E}  (C : GC p_ rm_X8_ticks s_ m_ args_ meth_ c_ cX8_ticks 4 wsX8_ticks RX8 sa D (tyX X) (va_A (gw 128 ad G0) s_.heap.size)) (hret : meth_.sig.returnType = none) (hlk : meth_.locks = false) : ∀ (v1 : Int32) (v2 : Int32) (ω : Mem) (hmi : MIn 10 ω) (rv : Option Value) (G2 : Nat → va_E) (e1 : rv = none) (e2 : G2 = mk X ad (f_X8_ticks_38 v1 v2 ω)), GV p_ l_ e_ rm_X8_ticks s_ m_ args_ below_ meth_ c_ 0 0 (CQ below_ args_ s_ D 128 ad G0 rv G2) D (va_A (gw 128 ad G0) s_.heap.size) 4 128 ad (mk X ad ω) [(0, .ref (ad 120)), (1, .int v1), (2, .int v2), (3, .int 4)] 38 [] := by
  have iX8 : ∀ w ∈ u_ws RX8 TX8 14, w ∈ wsX8_ticks := by decide +kernel
  have L7 : Cond.fieldLink RX8 7 (TX8 1).1 (TX8 1).2.1 (TX8 1).2.2.1 ∈ wsX8_ticks := by decide +kernel
  intro v1 v2 ω hmi rv G2 e1 e2
  refine g_aload_n C dX8_ticks_38 rfl 0 rfl ?_
  refine g_get (v := .ref (ad 121)) C iX8 (by decide) (mk_11 (by decide)) rfl 1 (by decide) L7 rfl dX8_ticks_39 ?_
  refine g_bipush (v := 6) C dX8_ticks_42 (by decide) ?_
  refine g_aload_n C dX8_ticks_44 rfl 0 rfl ?_
  refine g_get (v := .ref (ad 121)) C iX8 (by decide) (mk_11 (by decide)) rfl 1 (by decide) L7 rfl dX8_ticks_45 ?_
  refine g_iconst (v := 5) C dX8_ticks_48 (by decide) ?_
  refine g_iald (k := 5) C 0 (by decide) (mk_12n (N := 108) (by decide) (by decide)) rfl (by unfold vp_in; decide) rfl dX8_ticks_49 ?_
  refine g_aload_n C dX8_ticks_50 rfl 0 rfl ?_
  refine g_get (v := .ref (ad 121)) C iX8 (by decide) (mk_11 (by decide)) rfl 1 (by decide) L7 rfl dX8_ticks_51 ?_
  refine g_bipush (v := 6) C dX8_ticks_54 (by decide) ?_
  refine g_iald (k := 6) C 0 (by decide) (mk_12n (N := 108) (by decide) (by decide)) rfl (by unfold vp_in; decide) rfl dX8_ticks_56 ?_
  refine g_icmp_le (tgt := 69) C dX8_ticks_57 (by decide) (fun h1 => ?_) (fun h1 => ?_)
  · refine g_aload_n C dX8_ticks_69 rfl 0 rfl ?_
    refine g_get (v := .ref (ad 121)) C iX8 (by decide) (mk_11 (by decide)) rfl 1 (by decide) L7 rfl dX8_ticks_70 ?_
    refine g_bipush (v := 6) C dX8_ticks_73 (by decide) ?_
    refine g_iald (k := 6) C 0 (by decide) (mk_12n (N := 108) (by decide) (by decide)) rfl (by unfold vp_in; decide) rfl dX8_ticks_75 ?_
    exact k_X8_ticks_76   C hret hlk v1 v2 (ω 121 6) ω hmi _ _ e1 (e2.trans (congrArg (mk X ad) ((if_pos h1).trans rfl)))
  · refine g_aload_n C dX8_ticks_60 rfl 0 rfl ?_
    refine g_get (v := .ref (ad 121)) C iX8 (by decide) (mk_11 (by decide)) rfl 1 (by decide) L7 rfl dX8_ticks_61 ?_
    refine g_iconst (v := 5) C dX8_ticks_64 (by decide) ?_
    refine g_iald (k := 5) C 0 (by decide) (mk_12n (N := 108) (by decide) (by decide)) rfl (by unfold vp_in; decide) rfl dX8_ticks_65 ?_
    refine g_goto (tgt := 76) C dX8_ticks_66 (by decide) ?_
    exact k_X8_ticks_76   C hret hlk v1 v2 (ω 121 5) ω hmi _ _ e1 (e2.trans (congrArg (mk X ad) ((if_neg h1).trans rfl)))
theorem mi_X8_ticks_38  : ∀ (v1 : Int32) (v2 : Int32) (ω : Mem) (hmi : MIn 10 ω), MIn 10 (f_X8_ticks_38 v1 v2 ω) := by
  intro v1 v2 ω hmi
  unfold f_X8_ticks_38
  have hz1 := hmi.1.2; have hz2 := hmi.2.1.2; have hz3 := hmi.2.2.2
  by_cases h1 : (ω 121 5) ≤ (ω 121 6)
  · rw [if_pos h1]
    exact mi_X8_ticks_76   v1 v2 (ω 121 6) ω hmi
  · rw [if_neg h1]
    exact mi_X8_ticks_76   v1 v2 (ω 121 5) ω hmi
def f_X8_ticks  (ω : Mem) : Mem := (f_X8_ticks_38 (f_X8_draftAt (ω 121 4) ω) (ω 121 5) (f_X8_burns 3 (f_X8_draftAt (ω 121 4) ω) (ω 121 5) (f_X8_burns 2 (f_X8_draftAt (ω 121 4) ω) (ω 121 5) (f_X8_burns 1 (f_X8_draftAt (ω 121 4) ω) (ω 121 5) (f_X8_burns 0 (f_X8_draftAt (ω 121 4) ω) (ω 121 5) ω)))))
theorem mi_X8_ticks  (ω : Mem) (hmi : MIn 10 ω) : MIn 10 (f_X8_ticks ω) := by
  unfold f_X8_ticks
  have hz1 := hmi.1.2; have hz2 := hmi.2.1.2; have hz3 := hmi.2.2.2
  exact mi_X8_ticks_38   (f_X8_draftAt (ω 121 4) ω) (ω 121 5) (f_X8_burns 3 (f_X8_draftAt (ω 121 4) ω) (ω 121 5) (f_X8_burns 2 (f_X8_draftAt (ω 121 4) ω) (ω 121 5) (f_X8_burns 1 (f_X8_draftAt (ω 121 4) ω) (ω 121 5) (f_X8_burns 0 (f_X8_draftAt (ω 121 4) ω) (ω 121 5) ω)))) (mi_X8_burns 3 (f_X8_draftAt (ω 121 4) ω) (ω 121 5) (by omega) (f_X8_burns 2 (f_X8_draftAt (ω 121 4) ω) (ω 121 5) (f_X8_burns 1 (f_X8_draftAt (ω 121 4) ω) (ω 121 5) (f_X8_burns 0 (f_X8_draftAt (ω 121 4) ω) (ω 121 5) ω))) (mi_X8_burns 2 (f_X8_draftAt (ω 121 4) ω) (ω 121 5) (by omega) (f_X8_burns 1 (f_X8_draftAt (ω 121 4) ω) (ω 121 5) (f_X8_burns 0 (f_X8_draftAt (ω 121 4) ω) (ω 121 5) ω)) (mi_X8_burns 1 (f_X8_draftAt (ω 121 4) ω) (ω 121 5) (by omega) (f_X8_burns 0 (f_X8_draftAt (ω 121 4) ω) (ω 121 5) ω) (mi_X8_burns 0 (f_X8_draftAt (ω 121 4) ω) (ω 121 5) (by omega) ω hmi))))
set_option maxRecDepth 100000 in
set_option maxHeartbeats 4000000 in
theorem c_X8_ticks {l_ : Launch} {sa : Nat → Nat} {D : va_G} {X : Nat → ClassId} {ad : Nat → Nat}  (ω : Mem) (hmi : MIn 10 ω) : CT l_ yX8_ticks wsX8_ticks rm_X8_ticks sa D (tyX X) 128 ad (mk X ad ω) [.ref (ad 120)] (none : Option Value) (mk X ad (f_X8_ticks ω)) := by
  refine ct_of [(0, .ref (ad 120))] (by decide +kernel) rfl rfl (Nat.le_of_ble_eq_true rfl) rfl ?_
  intro p_ e_ s_ m_ args_ below_ meth_ c_ C hret hlk hin
  have e1 : (none : Option Value) = (none : Option Value) := rfl
  have e2 : mk X ad (f_X8_ticks ω) = mk X ad (f_X8_ticks ω) := rfl
  have iX8 : ∀ w ∈ u_ws RX8 TX8 14, w ∈ wsX8_ticks := by decide +kernel
  have L7 : Cond.fieldLink RX8 7 (TX8 1).1 (TX8 1).2.1 (TX8 1).2.2.1 ∈ wsX8_ticks := by decide +kernel
  refine g_aload_n C dX8_ticks_0 rfl 0 rfl ?_
  refine g_aload_n C dX8_ticks_1 rfl 0 rfl ?_
  refine g_get (v := .ref (ad 121)) C iX8 (by decide) (mk_11 (by decide)) rfl 1 (by decide) L7 rfl dX8_ticks_2 ?_
  refine g_iconst (v := 4) C dX8_ticks_5 (by decide) ?_
  refine g_iald (k := 4) C 0 (by decide) (mk_12n (N := 108) (by decide) (by decide)) rfl (by unfold vp_in; decide) rfl dX8_ticks_6 ?_
  refine g_callV (rest := []) (st1 := [.int (f_X8_draftAt (ω 121 4) ω)]) C (c_X8_draftAt (ω 121 4) ω hmi) (cwV 1 C.hts gX8_ticks_X8_draftAt rfl rfl rfl md_X8_draftAt ⟨Nat.le_of_ble_eq_true rfl, Nat.le_of_ble_eq_true rfl⟩) (by decide) (mk_11 (by decide)) rfl rfl rfl rfl rfl (Nat.le_of_ble_eq_true rfl) dX8_ticks_7 (Nat.zero_le _) (Nat.zero_le _) ?_
  refine g_istore_n (lv' := [(1, .int (f_X8_draftAt (ω 121 4) ω)), (0, .ref (ad 120))]) C dX8_ticks_10 rfl (by decide) rfl ?_
  refine g_aload_n C dX8_ticks_11 rfl 1 rfl ?_
  refine g_get (v := .ref (ad 121)) C iX8 (by decide) (mk_11 (by decide)) rfl 1 (by decide) L7 rfl dX8_ticks_12 ?_
  refine g_iconst (v := 5) C dX8_ticks_15 (by decide) ?_
  refine g_iald (k := 5) C 0 (by decide) (mk_12n (N := 108) (by decide) (by decide)) rfl (by unfold vp_in; decide) rfl dX8_ticks_16 ?_
  refine g_istore_n (lv' := [(2, .int (ω 121 5)), (1, .int (f_X8_draftAt (ω 121 4) ω)), (0, .ref (ad 120))]) C dX8_ticks_17 rfl (by decide) rfl ?_
  refine g_iconst (v := 0) C dX8_ticks_18 (by decide) ?_
  refine g_istore_n (lv' := [(3, .int 0), (2, .int (ω 121 5)), (1, .int (f_X8_draftAt (ω 121 4) ω)), (0, .ref (ad 120))]) C dX8_ticks_19 rfl (by decide) rfl ?_
  refine g_iload_n C dX8_ticks_20 rfl 0 rfl ?_
  refine g_iconst (v := 4) C dX8_ticks_21 (by decide) ?_
  refine g_icmp_ge (tgt := 38) C dX8_ticks_22 (by decide) (fun z => absurd z (by decide)) (fun _ => ?_)
  refine g_aload_n C dX8_ticks_25 rfl 3 rfl ?_
  refine g_iload_n C dX8_ticks_26 rfl 0 rfl ?_
  refine g_iload_n C dX8_ticks_27 rfl 2 rfl ?_
  refine g_iload_n C dX8_ticks_28 rfl 1 rfl ?_
  refine g_callV (rest := []) (st1 := []) C (c_X8_burns 0 (f_X8_draftAt (ω 121 4) ω) (ω 121 5) (by omega) ω hmi) (cwV 3 C.hts gX8_ticks_X8_burns rfl rfl rfl md_X8_burns ⟨Nat.le_of_ble_eq_true rfl, Nat.le_of_ble_eq_true rfl⟩) (by decide) (mk_11 (by decide)) rfl rfl rfl rfl rfl (Nat.le_of_ble_eq_true rfl) dX8_ticks_29 (Nat.zero_le _) (Nat.zero_le _) ?_
  refine g_iinc (k := 0) (v := 1) (lv' := [(3, .int 1), (2, .int (ω 121 5)), (1, .int (f_X8_draftAt (ω 121 4) ω)), (0, .ref (ad 120))]) C dX8_ticks_32 rfl (by decide) (by decide) rfl ?_
  refine g_goto (tgt := 20) C dX8_ticks_35 (by decide) ?_
  refine g_iload_n C dX8_ticks_20 rfl 0 rfl ?_
  refine g_iconst (v := 4) C dX8_ticks_21 (by decide) ?_
  refine g_icmp_ge (tgt := 38) C dX8_ticks_22 (by decide) (fun z => absurd z (by decide)) (fun _ => ?_)
  refine g_aload_n C dX8_ticks_25 rfl 3 rfl ?_
  refine g_iload_n C dX8_ticks_26 rfl 0 rfl ?_
  refine g_iload_n C dX8_ticks_27 rfl 2 rfl ?_
  refine g_iload_n C dX8_ticks_28 rfl 1 rfl ?_
  refine g_callV (rest := []) (st1 := []) C (c_X8_burns 1 (f_X8_draftAt (ω 121 4) ω) (ω 121 5) (by omega) (f_X8_burns 0 (f_X8_draftAt (ω 121 4) ω) (ω 121 5) ω) (mi_X8_burns 0 (f_X8_draftAt (ω 121 4) ω) (ω 121 5) (by omega) ω hmi)) (cwV 3 C.hts gX8_ticks_X8_burns rfl rfl rfl md_X8_burns ⟨Nat.le_of_ble_eq_true rfl, Nat.le_of_ble_eq_true rfl⟩) (by decide) (mk_11 (by decide)) rfl rfl rfl rfl rfl (Nat.le_of_ble_eq_true rfl) dX8_ticks_29 (Nat.zero_le _) (Nat.zero_le _) ?_
  refine g_iinc (k := 0) (v := 2) (lv' := [(3, .int 2), (2, .int (ω 121 5)), (1, .int (f_X8_draftAt (ω 121 4) ω)), (0, .ref (ad 120))]) C dX8_ticks_32 rfl (by decide) (by decide) rfl ?_
  refine g_goto (tgt := 20) C dX8_ticks_35 (by decide) ?_
  refine g_iload_n C dX8_ticks_20 rfl 0 rfl ?_
  refine g_iconst (v := 4) C dX8_ticks_21 (by decide) ?_
  refine g_icmp_ge (tgt := 38) C dX8_ticks_22 (by decide) (fun z => absurd z (by decide)) (fun _ => ?_)
  refine g_aload_n C dX8_ticks_25 rfl 3 rfl ?_
  refine g_iload_n C dX8_ticks_26 rfl 0 rfl ?_
  refine g_iload_n C dX8_ticks_27 rfl 2 rfl ?_
  refine g_iload_n C dX8_ticks_28 rfl 1 rfl ?_
  refine g_callV (rest := []) (st1 := []) C (c_X8_burns 2 (f_X8_draftAt (ω 121 4) ω) (ω 121 5) (by omega) (f_X8_burns 1 (f_X8_draftAt (ω 121 4) ω) (ω 121 5) (f_X8_burns 0 (f_X8_draftAt (ω 121 4) ω) (ω 121 5) ω)) (mi_X8_burns 1 (f_X8_draftAt (ω 121 4) ω) (ω 121 5) (by omega) (f_X8_burns 0 (f_X8_draftAt (ω 121 4) ω) (ω 121 5) ω) (mi_X8_burns 0 (f_X8_draftAt (ω 121 4) ω) (ω 121 5) (by omega) ω hmi))) (cwV 3 C.hts gX8_ticks_X8_burns rfl rfl rfl md_X8_burns ⟨Nat.le_of_ble_eq_true rfl, Nat.le_of_ble_eq_true rfl⟩) (by decide) (mk_11 (by decide)) rfl rfl rfl rfl rfl (Nat.le_of_ble_eq_true rfl) dX8_ticks_29 (Nat.zero_le _) (Nat.zero_le _) ?_
  refine g_iinc (k := 0) (v := 3) (lv' := [(3, .int 3), (2, .int (ω 121 5)), (1, .int (f_X8_draftAt (ω 121 4) ω)), (0, .ref (ad 120))]) C dX8_ticks_32 rfl (by decide) (by decide) rfl ?_
  refine g_goto (tgt := 20) C dX8_ticks_35 (by decide) ?_
  refine g_iload_n C dX8_ticks_20 rfl 0 rfl ?_
  refine g_iconst (v := 4) C dX8_ticks_21 (by decide) ?_
  refine g_icmp_ge (tgt := 38) C dX8_ticks_22 (by decide) (fun z => absurd z (by decide)) (fun _ => ?_)
  refine g_aload_n C dX8_ticks_25 rfl 3 rfl ?_
  refine g_iload_n C dX8_ticks_26 rfl 0 rfl ?_
  refine g_iload_n C dX8_ticks_27 rfl 2 rfl ?_
  refine g_iload_n C dX8_ticks_28 rfl 1 rfl ?_
  refine g_callV (rest := []) (st1 := []) C (c_X8_burns 3 (f_X8_draftAt (ω 121 4) ω) (ω 121 5) (by omega) (f_X8_burns 2 (f_X8_draftAt (ω 121 4) ω) (ω 121 5) (f_X8_burns 1 (f_X8_draftAt (ω 121 4) ω) (ω 121 5) (f_X8_burns 0 (f_X8_draftAt (ω 121 4) ω) (ω 121 5) ω))) (mi_X8_burns 2 (f_X8_draftAt (ω 121 4) ω) (ω 121 5) (by omega) (f_X8_burns 1 (f_X8_draftAt (ω 121 4) ω) (ω 121 5) (f_X8_burns 0 (f_X8_draftAt (ω 121 4) ω) (ω 121 5) ω)) (mi_X8_burns 1 (f_X8_draftAt (ω 121 4) ω) (ω 121 5) (by omega) (f_X8_burns 0 (f_X8_draftAt (ω 121 4) ω) (ω 121 5) ω) (mi_X8_burns 0 (f_X8_draftAt (ω 121 4) ω) (ω 121 5) (by omega) ω hmi)))) (cwV 3 C.hts gX8_ticks_X8_burns rfl rfl rfl md_X8_burns ⟨Nat.le_of_ble_eq_true rfl, Nat.le_of_ble_eq_true rfl⟩) (by decide) (mk_11 (by decide)) rfl rfl rfl rfl rfl (Nat.le_of_ble_eq_true rfl) dX8_ticks_29 (Nat.zero_le _) (Nat.zero_le _) ?_
  refine g_iinc (k := 0) (v := 4) (lv' := [(3, .int 4), (2, .int (ω 121 5)), (1, .int (f_X8_draftAt (ω 121 4) ω)), (0, .ref (ad 120))]) C dX8_ticks_32 rfl (by decide) (by decide) rfl ?_
  refine g_goto (tgt := 20) C dX8_ticks_35 (by decide) ?_
  refine g_iload_n C dX8_ticks_20 rfl 0 rfl ?_
  refine g_iconst (v := 4) C dX8_ticks_21 (by decide) ?_
  refine g_icmp_ge (tgt := 38) C dX8_ticks_22 (by decide) (fun _ => ?_) (fun z => absurd z (by decide))
  refine gv_lv (lv' := [(0, .ref (ad 120)), (1, .int (f_X8_draftAt (ω 121 4) ω)), (2, .int (ω 121 5)), (3, .int 4)]) [3, 2, 1, 0] rfl ?_
  exact k_X8_ticks_38   C hret hlk (f_X8_draftAt (ω 121 4) ω) (ω 121 5) (f_X8_burns 3 (f_X8_draftAt (ω 121 4) ω) (ω 121 5) (f_X8_burns 2 (f_X8_draftAt (ω 121 4) ω) (ω 121 5) (f_X8_burns 1 (f_X8_draftAt (ω 121 4) ω) (ω 121 5) (f_X8_burns 0 (f_X8_draftAt (ω 121 4) ω) (ω 121 5) ω)))) (mi_X8_burns 3 (f_X8_draftAt (ω 121 4) ω) (ω 121 5) (by omega) (f_X8_burns 2 (f_X8_draftAt (ω 121 4) ω) (ω 121 5) (f_X8_burns 1 (f_X8_draftAt (ω 121 4) ω) (ω 121 5) (f_X8_burns 0 (f_X8_draftAt (ω 121 4) ω) (ω 121 5) ω))) (mi_X8_burns 2 (f_X8_draftAt (ω 121 4) ω) (ω 121 5) (by omega) (f_X8_burns 1 (f_X8_draftAt (ω 121 4) ω) (ω 121 5) (f_X8_burns 0 (f_X8_draftAt (ω 121 4) ω) (ω 121 5) ω)) (mi_X8_burns 1 (f_X8_draftAt (ω 121 4) ω) (ω 121 5) (by omega) (f_X8_burns 0 (f_X8_draftAt (ω 121 4) ω) (ω 121 5) ω) (mi_X8_burns 0 (f_X8_draftAt (ω 121 4) ω) (ω 121 5) (by omega) ω hmi)))) _ _ e1 (e2.trans (congrArg (mk X ad) rfl))
abbrev rm_X8_totals : Room := { frames := 0, cells := 0, slots := 0, locals := 0 }
theorem md_X8_totals : yX8_totals.cls = RX8 ∧ yX8_totals.cls ≠ "java/lang/invoke/MethodHandle" ∧ yX8_totals.cls ≠ "java/lang/invoke/VarHandle" ∧ (parseMethodDescriptor yX8_totals.desc).map (fun d => d.parameters.length) = some 0 := by decide +kernel
def f_X8_totals  (ω : Mem) : Int32 := ((((ω 121 8) + (ω 121 9)) + (ω 121 10)) + (ω 121 11))
set_option maxRecDepth 100000 in
set_option maxHeartbeats 4000000 in
theorem c_X8_totals {l_ : Launch} {sa : Nat → Nat} {D : va_G} {X : Nat → ClassId} {ad : Nat → Nat}  (ω : Mem)  : CT l_ yX8_totals wsX8_totals rm_X8_totals sa D (tyX X) 128 ad (mk X ad ω) [.ref (ad 120)] (some (.int (f_X8_totals ω)) : Option Value) (mk X ad ω) := by
  refine ct_of [(0, .ref (ad 120))] (by decide +kernel) rfl rfl (Nat.le_of_ble_eq_true rfl) rfl ?_
  intro p_ e_ s_ m_ args_ below_ meth_ c_ C hret hlk hin
  have e1 : (some (.int (f_X8_totals ω)) : Option Value) = (some (.int (f_X8_totals ω)) : Option Value) := rfl
  have e2 : mk X ad ω = mk X ad ω := rfl
  have iX8 : ∀ w ∈ u_ws RX8 TX8 14, w ∈ wsX8_totals := by decide +kernel
  have L7 : Cond.fieldLink RX8 7 (TX8 1).1 (TX8 1).2.1 (TX8 1).2.2.1 ∈ wsX8_totals := by decide +kernel
  refine g_aload_n C dX8_totals_0 rfl 0 rfl ?_
  refine g_get (v := .ref (ad 121)) C iX8 (by decide) (mk_11 (by decide)) rfl 1 (by decide) L7 rfl dX8_totals_1 ?_
  refine g_bipush (v := 8) C dX8_totals_4 (by decide) ?_
  refine g_iald (k := 8) C 0 (by decide) (mk_12n (N := 108) (by decide) (by decide)) rfl (by unfold vp_in; decide) rfl dX8_totals_6 ?_
  refine g_aload_n C dX8_totals_7 rfl 0 rfl ?_
  refine g_get (v := .ref (ad 121)) C iX8 (by decide) (mk_11 (by decide)) rfl 1 (by decide) L7 rfl dX8_totals_8 ?_
  refine g_bipush (v := 9) C dX8_totals_11 (by decide) ?_
  refine g_iald (k := 9) C 0 (by decide) (mk_12n (N := 108) (by decide) (by decide)) rfl (by unfold vp_in; decide) rfl dX8_totals_13 ?_
  refine g_iadd (v := ((ω 121 8) + (ω 121 9))) C dX8_totals_14 rfl ?_
  refine g_aload_n C dX8_totals_15 rfl 0 rfl ?_
  refine g_get (v := .ref (ad 121)) C iX8 (by decide) (mk_11 (by decide)) rfl 1 (by decide) L7 rfl dX8_totals_16 ?_
  refine g_bipush (v := 10) C dX8_totals_19 (by decide) ?_
  refine g_iald (k := 10) C 0 (by decide) (mk_12n (N := 108) (by decide) (by decide)) rfl (by unfold vp_in; decide) rfl dX8_totals_21 ?_
  refine g_iadd (v := (((ω 121 8) + (ω 121 9)) + (ω 121 10))) C dX8_totals_22 rfl ?_
  refine g_aload_n C dX8_totals_23 rfl 0 rfl ?_
  refine g_get (v := .ref (ad 121)) C iX8 (by decide) (mk_11 (by decide)) rfl 1 (by decide) L7 rfl dX8_totals_24 ?_
  refine g_bipush (v := 11) C dX8_totals_27 (by decide) ?_
  refine g_iald (k := 11) C 0 (by decide) (mk_12n (N := 108) (by decide) (by decide)) rfl (by unfold vp_in; decide) rfl dX8_totals_29 ?_
  refine g_iadd (v := ((((ω 121 8) + (ω 121 9)) + (ω 121 10)) + (ω 121 11))) C dX8_totals_30 rfl ?_
  exact g_iret C hret hlk (e1.trans (congrArg (fun z => some (Value.int z)) rfl)) e2 dX8_totals_31
