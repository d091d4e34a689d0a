abbrev rm_X7_isWithin : Room := { frames := 0, cells := 0, slots := 0, locals := 0 }
theorem md_X7_isWithin : yX7_isWithin.cls = RX7 ∧ yX7_isWithin.cls ≠ "java/lang/invoke/MethodHandle" ∧ yX7_isWithin.cls ≠ "java/lang/invoke/VarHandle" ∧ (parseMethodDescriptor yX7_isWithin.desc).map (fun d => d.parameters.length) = some 3 := by decide +kernel
def f_X7_isWithin (v : Int32) (a : Int32) (b : Int32) (ω : Mem) : Int32 := (if v < a then 0 else (if b < v then 0 else 1))
set_option maxRecDepth 100000 in
set_option maxHeartbeats 4000000 in
theorem c_X7_isWithin {l_ : Launch} {sa : Nat → Nat} {D : va_G} {X : Nat → ClassId} {ad : Nat → Nat} (v : Int32) (a : Int32) (b : Int32) (ω : Mem)  : CT l_ yX7_isWithin wsX7_isWithin rm_X7_isWithin sa D (tyX X) 120 ad (mk X ad ω) [.int v, .int a, .int b] (some (.int (f_X7_isWithin v a b ω)) : Option Value) (mk X ad ω) := by
  refine ct_of [(0, .int v), (1, .int a), (2, .int b)] (by decide +kernel) rfl rfl (Nat.le_of_ble_eq_true rfl) rfl ?_
  intro p_ e_ s_ m_ args_ below_ meth_ c_ C hret hlk hin
  have e1 : (some (.int (f_X7_isWithin v a b ω)) : Option Value) = (some (.int (f_X7_isWithin v a b ω)) : Option Value) := rfl
  have e2 : mk X ad ω = mk X ad ω := rfl
  refine g_iload_n C dX7_isWithin_0 rfl 0 rfl ?_
  refine g_iload_n C dX7_isWithin_1 rfl 1 rfl ?_
  refine g_icmp_lt (tgt := 14) C dX7_isWithin_2 (by decide) (fun h1 => ?_) (fun h1 => ?_)
  · refine g_iconst (v := 0) C dX7_isWithin_14 (by decide) ?_
    exact g_zret C hret hlk (nar_b (by decide)).1 (e1.trans (congrArg (fun z => some (Value.int z)) ((if_pos h1).trans rfl))) e2 dX7_isWithin_15
  · refine g_iload_n C dX7_isWithin_5 rfl 0 rfl ?_
    refine g_iload_n C dX7_isWithin_6 rfl 2 rfl ?_
    refine g_icmp_gt (tgt := 14) C dX7_isWithin_7 (by decide) (fun h2 => ?_) (fun h2 => ?_)
    · refine g_iconst (v := 0) C dX7_isWithin_14 (by decide) ?_
      exact g_zret C hret hlk (nar_b (by decide)).1 (e1.trans (congrArg (fun z => some (Value.int z)) ((if_neg h1).trans ((if_pos h2).trans rfl)))) e2 dX7_isWithin_15
    · refine g_iconst (v := 1) C dX7_isWithin_10 (by decide) ?_
      refine g_goto (tgt := 15) C dX7_isWithin_11 (by decide) ?_
      exact g_zret C hret hlk (nar_b (by decide)).1 (e1.trans (congrArg (fun z => some (Value.int z)) ((if_neg h1).trans ((if_neg h2).trans rfl)))) e2 dX7_isWithin_15
theorem z_X7_isWithin {v : Int32} {a : Int32} {b : Int32} {ω : Mem} : bb (f_X7_isWithin v a b ω) = f_X7_isWithin v a b ω := by
  unfold f_X7_isWithin
  repeat' split
  all_goals first | with_reducible exact bb_bb _ | decide
theorem isW_bad {x a b : Int32} {ω : Mem} (h : x < a ∨ b < x) : f_X7_isWithin x a b ω = 0 := by
  unfold f_X7_isWithin
  by_cases h1 : x < a
  · rw [if_pos h1]
  · rw [if_neg h1, if_pos (h.resolve_left h1)]
abbrev rm_X7_oneIf : Room := { frames := 0, cells := 0, slots := 0, locals := 0 }
theorem md_X7_oneIf : yX7_oneIf.cls = RX7 ∧ yX7_oneIf.cls ≠ "java/lang/invoke/MethodHandle" ∧ yX7_oneIf.cls ≠ "java/lang/invoke/VarHandle" ∧ (parseMethodDescriptor yX7_oneIf.desc).map (fun d => d.parameters.length) = some 1 := by decide +kernel
def f_X7_oneIf (v : Int32) (ω : Mem) : Int32 := (if v = 0 then 0 else 1)
set_option maxRecDepth 100000 in
set_option maxHeartbeats 4000000 in
theorem c_X7_oneIf {l_ : Launch} {sa : Nat → Nat} {D : va_G} {X : Nat → ClassId} {ad : Nat → Nat} (v : Int32) (ω : Mem)  : CT l_ yX7_oneIf wsX7_oneIf rm_X7_oneIf sa D (tyX X) 120 ad (mk X ad ω) [.int v] (some (.int (f_X7_oneIf v ω)) : Option Value) (mk X ad ω) := by
  refine ct_of [(0, .int v)] (by decide +kernel) rfl rfl (Nat.le_of_ble_eq_true rfl) rfl ?_
  intro p_ e_ s_ m_ args_ below_ meth_ c_ C hret hlk hin
  have e1 : (some (.int (f_X7_oneIf v ω)) : Option Value) = (some (.int (f_X7_oneIf v ω)) : Option Value) := rfl
  have e2 : mk X ad ω = mk X ad ω := rfl
  refine g_iload_n C dX7_oneIf_0 rfl 0 rfl ?_
  refine g_if_eq (tgt := 8) C dX7_oneIf_1 (by decide) (fun h1 => ?_) (fun h1 => ?_)
  · refine g_iconst (v := 0) C dX7_oneIf_8 (by decide) ?_
    exact g_iret C hret hlk (e1.trans (congrArg (fun z => some (Value.int z)) ((if_pos h1).trans rfl))) e2 dX7_oneIf_9
  · refine g_iconst (v := 1) C dX7_oneIf_4 (by decide) ?_
    refine g_goto (tgt := 9) C dX7_oneIf_5 (by decide) ?_
    exact g_iret C hret hlk (e1.trans (congrArg (fun z => some (Value.int z)) ((if_neg h1).trans rfl))) e2 dX7_oneIf_9
abbrev rm_X7_elementAt : Room := { frames := 0, cells := 0, slots := 0, locals := 0 }
theorem md_X7_elementAt : yX7_elementAt.cls = RX7 ∧ yX7_elementAt.cls ≠ "java/lang/invoke/MethodHandle" ∧ yX7_elementAt.cls ≠ "java/lang/invoke/VarHandle" ∧ (parseMethodDescriptor yX7_elementAt.desc).map (fun d => d.parameters.length) = some 2 := by decide +kernel
def f_X7_elementAt (n : Nat) (r : Nat) (x : Int32) (ω : Mem) : Int32 := (if x < 0 then 0 else (if (nI (n)) ≤ x then 0 else (ω r x.toNatClampNeg)))
set_option maxRecDepth 100000 in
set_option maxHeartbeats 4000000 in
theorem c_X7_elementAt {l_ : Launch} {sa : Nat → Nat} {D : va_G} {X : Nat → ClassId} {ad : Nat → Nat} (n : Nat) (r : Nat) (x : Int32) (hr : isR r n) (hn : n < 2 ^ 31) (ω : Mem)  : CT l_ yX7_elementAt wsX7_elementAt rm_X7_elementAt sa D (tyX X) 120 ad (mk X ad ω) [.ref (ad r), .int x] (some (.int (f_X7_elementAt n r x ω)) : Option Value) (mk X ad ω) := by
  refine ct_of [(0, .ref (ad r)), (1, .int x)] (by decide +kernel) rfl rfl (Nat.le_of_ble_eq_true rfl) rfl ?_
  intro p_ e_ s_ m_ args_ below_ meth_ c_ C hret hlk hin
  have e1 : (some (.int (f_X7_elementAt n r x ω)) : Option Value) = (some (.int (f_X7_elementAt n r x ω)) : Option Value) := rfl
  have e2 : mk X ad ω = mk X ad ω := rfl
  refine g_iload_n C dX7_elementAt_0 rfl 1 rfl ?_
  refine g_if_lt (tgt := 16) C dX7_elementAt_1 (by decide) (fun h1 => ?_) (fun h1 => ?_)
  · refine g_iconst (v := 0) C dX7_elementAt_16 (by decide) ?_
    exact g_iret C hret hlk (e1.trans (congrArg (fun z => some (Value.int z)) ((if_pos h1).trans rfl))) e2 dX7_elementAt_17
  · refine g_iload_n C dX7_elementAt_4 rfl 1 rfl ?_
    refine g_aload_n C dX7_elementAt_5 rfl 0 rfl ?_
    refine g_alen (v := (nI (n))) C 0 (hr).1 (mk_12n (N := n) (hr).2.1 (hr).2.2) rfl rfl dX7_elementAt_6 ?_
    refine g_icmp_ge (tgt := 16) C dX7_elementAt_7 (by decide) (fun h2 => ?_) (fun h2 => ?_)
    · refine g_iconst (v := 0) C dX7_elementAt_16 (by decide) ?_
      exact g_iret C hret hlk (e1.trans (congrArg (fun z => some (Value.int z)) ((if_neg h1).trans ((if_pos h2).trans rfl)))) e2 dX7_elementAt_17
    · refine g_aload_n C dX7_elementAt_10 rfl 0 rfl ?_
      refine g_iload_n C dX7_elementAt_11 rfl 1 rfl ?_
      refine g_iald (k := x.toNatClampNeg) C 0 (hr).1 (mk_12n (N := n) (hr).2.1 (hr).2.2) rfl (vp_in_of2 h1 h2 (nI_toInt (by omega))) rfl dX7_elementAt_12 ?_
      refine g_goto (tgt := 17) C dX7_elementAt_13 (by decide) ?_
      exact g_iret C hret hlk (e1.trans (congrArg (fun z => some (Value.int z)) ((if_neg h1).trans ((if_neg h2).trans rfl)))) e2 dX7_elementAt_17
def f_X7_elementAtT (q : String × String × List Int32) (x : Int32) (ω : Mem) : Int32 := (if x < 0 then 0 else (if (nI (q.2.2.length)) ≤ x then 0 else (q.2.2.getD x.toNatClampNeg 0)))
set_option maxRecDepth 100000 in
set_option maxHeartbeats 4000000 in
theorem c_X7_elementAtT {l_ : Launch} {sa : Nat → Nat} {D : va_G} {X : Nat → ClassId} {ad : Nat → Nat} (k : Nat) (q : String × String × List Int32) (x : Int32) (hsv : svL[k]? = some q) (hn : q.2.2.length < 2 ^ 31) (ω : Mem)  : CT l_ yX7_elementAt wsX7_elementAt rm_X7_elementAt sa D (tyX X) 120 ad (mk X ad ω) [.ref (sa k), .int x] (some (.int (f_X7_elementAtT q x ω)) : Option Value) (mk X ad ω) := by
  refine ct_of [(0, .ref (sa k)), (1, .int x)] (by decide +kernel) rfl rfl (Nat.le_of_ble_eq_true rfl) rfl ?_
  intro p_ e_ s_ m_ args_ below_ meth_ c_ C hret hlk hin
  have e1 : (some (.int (f_X7_elementAtT q x ω)) : Option Value) = (some (.int (f_X7_elementAtT q x ω)) : Option Value) := rfl
  have e2 : mk X ad ω = mk X ad ω := rfl
  refine g_iload_n C dX7_elementAt_0 rfl 1 rfl ?_
  refine g_if_lt (tgt := 16) C dX7_elementAt_1 (by decide) (fun h1 => ?_) (fun h1 => ?_)
  · refine g_iconst (v := 0) C dX7_elementAt_16 (by decide) ?_
    exact g_iret C hret hlk (e1.trans (congrArg (fun z => some (Value.int z)) ((if_pos h1).trans rfl))) e2 dX7_elementAt_17
  · refine g_iload_n C dX7_elementAt_4 rfl 1 rfl ?_
    refine g_aload_n C dX7_elementAt_5 rfl 0 rfl ?_
    refine g_tlen C k hsv rfl dX7_elementAt_6 ?_
    refine g_icmp_ge (tgt := 16) C dX7_elementAt_7 (by decide) (fun h2 => ?_) (fun h2 => ?_)
    · refine g_iconst (v := 0) C dX7_elementAt_16 (by decide) ?_
      exact g_iret C hret hlk (e1.trans (congrArg (fun z => some (Value.int z)) ((if_neg h1).trans ((if_pos h2).trans rfl)))) e2 dX7_elementAt_17
    · refine g_aload_n C dX7_elementAt_10 rfl 0 rfl ?_
      refine g_iload_n C dX7_elementAt_11 rfl 1 rfl ?_
      refine g_tald (z := x.toNatClampNeg) C k hsv (vp_in_of2 h1 h2 (nI_toInt (by omega))) rfl dX7_elementAt_12 ?_
      refine g_goto (tgt := 17) C dX7_elementAt_13 (by decide) ?_
      exact g_iret C hret hlk (e1.trans (congrArg (fun z => some (Value.int z)) ((if_neg h1).trans ((if_neg h2).trans rfl)))) e2 dX7_elementAt_17
abbrev rm_X7_copyRow : Room := { frames := 1, cells := 0, slots := 0, locals := 18 }
theorem md_X7_copyRow : yX7_copyRow.cls = RX7 ∧ yX7_copyRow.cls ≠ "java/lang/invoke/MethodHandle" ∧ yX7_copyRow.cls ≠ "java/lang/invoke/VarHandle" ∧ (parseMethodDescriptor yX7_copyRow.desc).map (fun d => d.parameters.length) = some 2 := by decide +kernel
def f_X7_copyRow (n : Nat) (u : Nat) (r : Nat) (t : Nat) (ω : Mem) : Mem := (va_up ω t (va_cpy (ω r) (ω t) 0 0 (min (n) (u))))
set_option maxRecDepth 100000 in
set_option maxHeartbeats 4000000 in
theorem c_X7_copyRow {l_ : Launch} {sa : Nat → Nat} {D : va_G} {X : Nat → ClassId} {ad : Nat → Nat} (n : Nat) (u : Nat) (r : Nat) (t : Nat) (hr : isR r n) (ht : isR t u) (hn : n < 2 ^ 31) (hu : u < 2 ^ 31) (ω : Mem)  : CT l_ yX7_copyRow wsX7_copyRow rm_X7_copyRow sa D (tyX X) 120 ad (mk X ad ω) [.ref (ad r), .ref (ad t)] (none : Option Value) (mk X ad (f_X7_copyRow n u r t ω)) := by
  refine ct_of [(0, .ref (ad r)), (1, .ref (ad t))] (by decide +kernel) rfl rfl (Nat.le_of_ble_eq_true rfl) rfl ?_
  intro p_ e_ s_ m_ args_ below_ meth_ c_ C hret hlk hin
  have e1 : (none : Option Value) = (none : Option Value) := rfl
  have e2 : mk X ad (f_X7_copyRow n u r t ω) = mk X ad (f_X7_copyRow n u r t ω) := rfl
  have A259 : Cond.methodLink RX7 259 arraycopyName ∈ wsX7_copyRow := by decide +kernel
  have Aini : Cond.initialized "java/lang/System" ∈ wsX7_copyRow := by decide +kernel
  have Anat : Cond.native arraycopyName ∈ wsX7_copyRow := by decide +kernel
  have Asta : Cond.static arraycopyName ∈ wsX7_copyRow := by decide +kernel
  have M254a : Cond.methodLink RX7 254 Lib.Math.min.name ∈ wsX7_copyRow := by decide +kernel
  have Mini : Cond.initialized "java/lang/Math" ∈ wsX7_copyRow := by decide +kernel
  have Mminb : Cond.static Lib.Math.min.name ∈ wsX7_copyRow := by decide +kernel
  have Mminc : Cond.code Lib.Math.min.name Lib.Math.min.code 2 (some .int) ∈ wsX7_copyRow := by decide +kernel
  refine g_aload_n C dX7_copyRow_0 rfl 0 rfl ?_
  refine g_iconst (v := 0) C dX7_copyRow_1 (by decide) ?_
  refine g_aload_n C dX7_copyRow_2 rfl 1 rfl ?_
  refine g_iconst (v := 0) C dX7_copyRow_3 (by decide) ?_
  refine g_aload_n C dX7_copyRow_4 rfl 0 rfl ?_
  refine g_alen (v := (nI (n))) C 0 (hr).1 (mk_12n (N := n) (hr).2.1 (hr).2.2) rfl rfl dX7_copyRow_5 ?_
  refine g_aload_n C dX7_copyRow_6 rfl 1 rfl ?_
  refine g_alen (v := (nI (u))) C 0 (ht).1 (mk_12n (N := u) (ht).2.1 (ht).2.2) rfl rfl dX7_copyRow_7 ?_
  refine g_mmin (v := (nI (min (n) (u)))) C M254a Mminb Mini Mminc (Nat.le_of_ble_eq_true rfl) (Nat.le_of_ble_eq_true rfl) (Nat.zero_le _) (Nat.zero_le _) dX7_copyRow_8 (nI_min (a := n) (b := u) (by omega) (by omega)) ?_
  refine g_copy (zs := 0) (zd := 0) (zz := min (n) (u)) C 0 A259 Anat Asta Aini (hr).1 (mk_12n (N := n) (hr).2.1 (hr).2.2) (ht).1 (mk_12n (N := u) (ht).2.1 (ht).2.2) rfl rfl (by decide) (by decide) (nI_pos (n := min (n) (u)) (by omega)) (by decide) (by decide) (nI_clamp (n := min (n) (u)) (by omega)) (by omega) (by omega) (Nat.le_of_ble_eq_true rfl) (Nat.le_of_ble_eq_true rfl) dX7_copyRow_11 ?_
  refine gv_eqG (mk_row (N := u) (ht).2.1 (ht).2.2) ?_
  exact g_vret C hret hlk e1 (e2.trans (congrArg (mk X ad) rfl)) dX7_copyRow_14
abbrev rm_X4_isOne : Room := { frames := 1, cells := 0, slots := 0, locals := 22 }
theorem md_X4_isOne : yX4_isOne.cls = RX4 ∧ yX4_isOne.cls ≠ "java/lang/invoke/MethodHandle" ∧ yX4_isOne.cls ≠ "java/lang/invoke/VarHandle" ∧ (parseMethodDescriptor yX4_isOne.desc).map (fun d => d.parameters.length) = some 1 := by decide +kernel
def f_X4_isOne (w : Int32) (ω : Mem) : Int32 := (f_X7_isWithin w 0 3 ω)
set_option maxRecDepth 100000 in
set_option maxHeartbeats 4000000 in
theorem c_X4_isOne {l_ : Launch} {sa : Nat → Nat} {D : va_G} {X : Nat → ClassId} {ad : Nat → Nat} (w : Int32) (ω : Mem)  : CT l_ yX4_isOne wsX4_isOne rm_X4_isOne sa D (tyX X) 120 ad (mk X ad ω) [.int w] (some (.int (f_X4_isOne w ω)) : Option Value) (mk X ad ω) := by
  refine ct_of [(0, .int w)] (by decide +kernel) rfl rfl (Nat.le_of_ble_eq_true rfl) rfl ?_
  intro p_ e_ s_ m_ args_ below_ meth_ c_ C hret hlk hin
  have e1 : (some (.int (f_X4_isOne w ω)) : Option Value) = (some (.int (f_X4_isOne w ω)) : Option Value) := rfl
  have e2 : mk X ad ω = mk X ad ω := rfl
  have IX7 : Cond.initialized RX7 ∈ wsX4_isOne := by decide +kernel
  have S7 : Cond.fieldLink RX4 7 "FlameGuards$Settings" "FIRST" "[I" ∈ wsX4_isOne := by decide +kernel
  have TX7_isWithin : Cond.static yX7_isWithin ∈ wsX4_isOne := by decide +kernel
  refine g_iload_n C dX4_isOne_0 rfl 0 rfl ?_
  refine g_iconst (v := 0) C dX4_isOne_1 (by decide) ?_
  refine g_gets C 2 rfl S7 dX4_isOne_2 ?_
  refine g_tlen (v := 4) C 2 rfl (by decide) dX4_isOne_5 ?_
  refine g_iconst (v := 1) C dX4_isOne_6 (by decide) ?_
  refine g_isub (v := 3) C dX4_isOne_7 (by decide) ?_
  refine g_callSN (rest := []) (st1 := [.int (f_X7_isWithin w 0 3 ω)]) C (c_X7_isWithin w 0 3 ω) (va_cnB 3 C.hts gX4_isOne_X7_isWithin_n16 rfl rfl rfl (nw6 C.hN) (C.hts _ IX7) md_X7_isWithin.2 ⟨Nat.le_of_ble_eq_true rfl, Nat.le_of_ble_eq_true rfl⟩) TX7_isWithin rfl rfl rfl (Nat.le_of_ble_eq_true rfl) dX4_isOne_8 (Nat.zero_le _) (Nat.zero_le _) ?_
  exact g_zret C hret hlk (nar_b (z_X7_isWithin ..)).1 (e1.trans (congrArg (fun z => some (Value.int z)) rfl)) e2 dX4_isOne_11
theorem z_X4_isOne {w : Int32} {ω : Mem} : bb (f_X4_isOne w ω) = f_X4_isOne w ω := by
  unfold f_X4_isOne
  repeat' split
  all_goals first | with_reducible exact z_X7_isWithin | with_reducible exact bb_bb _ | decide
abbrev rm_X4_allows : Room := { frames := 1, cells := 0, slots := 0, locals := 22 }
theorem md_X4_allows : yX4_allows.cls = RX4 ∧ yX4_allows.cls ≠ "java/lang/invoke/MethodHandle" ∧ yX4_allows.cls ≠ "java/lang/invoke/VarHandle" ∧ (parseMethodDescriptor yX4_allows.desc).map (fun d => d.parameters.length) = some 2 := by decide +kernel
def f_X4_allows (w : Int32) (v : Int32) (ω : Mem) : Int32 := (f_X7_isWithin v (f_X7_elementAtT ("FlameGuards$Settings", "LEAST", ([100, 1, 0, 50] : List Int32)) w ω) (f_X7_elementAtT ("FlameGuards$Settings", "MOST", ([450, 20, 50, 1000] : List Int32)) w ω) ω)
set_option maxRecDepth 100000 in
set_option maxHeartbeats 4000000 in
theorem c_X4_allows {l_ : Launch} {sa : Nat → Nat} {D : va_G} {X : Nat → ClassId} {ad : Nat → Nat} (w : Int32) (v : Int32) (ω : Mem)  : CT l_ yX4_allows wsX4_allows rm_X4_allows sa D (tyX X) 120 ad (mk X ad ω) [.int w, .int v] (some (.int (f_X4_allows w v ω)) : Option Value) (mk X ad ω) := by
  refine ct_of [(0, .int w), (1, .int v)] (by decide +kernel) rfl rfl (Nat.le_of_ble_eq_true rfl) rfl ?_
  intro p_ e_ s_ m_ args_ below_ meth_ c_ C hret hlk hin
  have e1 : (some (.int (f_X4_allows w v ω)) : Option Value) = (some (.int (f_X4_allows w v ω)) : Option Value) := rfl
  have e2 : mk X ad ω = mk X ad ω := rfl
  have IX7 : Cond.initialized RX7 ∈ wsX4_allows := by decide +kernel
  have S22 : Cond.fieldLink RX4 22 "FlameGuards$Settings" "LEAST" "[I" ∈ wsX4_allows := by decide +kernel
  have S29 : Cond.fieldLink RX4 29 "FlameGuards$Settings" "MOST" "[I" ∈ wsX4_allows := by decide +kernel
  have TX7_elementAt : Cond.static yX7_elementAt ∈ wsX4_allows := by decide +kernel
  have TX7_isWithin : Cond.static yX7_isWithin ∈ wsX4_allows := by decide +kernel
  refine g_iload_n C dX4_allows_0 rfl 1 rfl ?_
  refine g_gets C 0 rfl S22 dX4_allows_1 ?_
  refine g_iload_n C dX4_allows_4 rfl 0 rfl ?_
  refine g_callSN (rest := [.int v]) (st1 := [.int (f_X7_elementAtT ("FlameGuards$Settings", "LEAST", ([100, 1, 0, 50] : List Int32)) w ω), .int v]) C (c_X7_elementAtT 0 ("FlameGuards$Settings", "LEAST", ([100, 1, 0, 50] : List Int32)) w rfl (by decide) ω) (va_cnB 2 C.hts gX4_allows_X7_elementAt_n25 rfl rfl rfl (nw7 C.hN) (C.hts _ IX7) md_X7_elementAt.2 ⟨Nat.le_of_ble_eq_true rfl, Nat.le_of_ble_eq_true rfl⟩) TX7_elementAt rfl rfl rfl (Nat.le_of_ble_eq_true rfl) dX4_allows_5 (Nat.zero_le _) (Nat.zero_le _) ?_
  refine g_gets C 1 rfl S29 dX4_allows_8 ?_
  refine g_iload_n C dX4_allows_11 rfl 0 rfl ?_
  refine g_callSN (rest := [.int (f_X7_elementAtT ("FlameGuards$Settings", "LEAST", ([100, 1, 0, 50] : List Int32)) w ω), .int v]) (st1 := [.int (f_X7_elementAtT ("FlameGuards$Settings", "MOST", ([450, 20, 50, 1000] : List Int32)) w ω), .int (f_X7_elementAtT ("FlameGuards$Settings", "LEAST", ([100, 1, 0, 50] : List Int32)) w ω), .int v]) C (c_X7_elementAtT 1 ("FlameGuards$Settings", "MOST", ([450, 20, 50, 1000] : List Int32)) w rfl (by decide) ω) (va_cnB 2 C.hts gX4_allows_X7_elementAt_n25 rfl rfl rfl (nw7 C.hN) (C.hts _ IX7) md_X7_elementAt.2 ⟨Nat.le_of_ble_eq_true rfl, Nat.le_of_ble_eq_true rfl⟩) TX7_elementAt rfl rfl rfl (Nat.le_of_ble_eq_true rfl) dX4_allows_12 (Nat.zero_le _) (Nat.zero_le _) ?_
  refine g_callSN (rest := []) (st1 := [.int (f_X7_isWithin v (f_X7_elementAtT ("FlameGuards$Settings", "LEAST", ([100, 1, 0, 50] : List Int32)) w ω) (f_X7_elementAtT ("FlameGuards$Settings", "MOST", ([450, 20, 50, 1000] : List Int32)) w ω) ω)]) C (c_X7_isWithin v (f_X7_elementAtT ("FlameGuards$Settings", "LEAST", ([100, 1, 0, 50] : List Int32)) w ω) (f_X7_elementAtT ("FlameGuards$Settings", "MOST", ([450, 20, 50, 1000] : List Int32)) w ω) ω) (va_cnB 3 C.hts gX4_allows_X7_isWithin_n16 rfl rfl rfl (nw6 C.hN) (C.hts _ IX7) md_X7_isWithin.2 ⟨Nat.le_of_ble_eq_true rfl, Nat.le_of_ble_eq_true rfl⟩) TX7_isWithin rfl rfl rfl (Nat.le_of_ble_eq_true rfl) dX4_allows_15 (Nat.zero_le _) (Nat.zero_le _) ?_
  exact g_zret C hret hlk (nar_b (z_X7_isWithin ..)).1 (e1.trans (congrArg (fun z => some (Value.int z)) rfl)) e2 dX4_allows_18
theorem z_X4_allows {w : Int32} {v : Int32} {ω : Mem} : bb (f_X4_allows w v ω) = f_X4_allows w v ω := by
  unfold f_X4_allows
  repeat' split
  all_goals first | with_reducible exact z_X7_isWithin | with_reducible exact bb_bb _ | decide
abbrev rm_X4_valueOf : Room := { frames := 1, cells := 0, slots := 0, locals := 21 }
theorem md_X4_valueOf : yX4_valueOf.cls = RX4 ∧ yX4_valueOf.cls ≠ "java/lang/invoke/MethodHandle" ∧ yX4_valueOf.cls ≠ "java/lang/invoke/VarHandle" ∧ (parseMethodDescriptor yX4_valueOf.desc).map (fun d => d.parameters.length) = some 1 := by decide +kernel
def f_X4_valueOf (i : Nat) (w : Int32) (ω : Mem) : Int32 := (f_X7_elementAt 4 (i + 1) w ω)
set_option maxRecDepth 100000 in
set_option maxHeartbeats 4000000 in
theorem c_X4_valueOf {l_ : Launch} {sa : Nat → Nat} {D : va_G} {X : Nat → ClassId} {ad : Nat → Nat} (i : Nat) (w : Int32) (hi : isSet i) (ω : Mem)  : CT l_ yX4_valueOf wsX4_valueOf rm_X4_valueOf sa D (tyX X) 120 ad (mk X ad ω) [.ref (ad i), .int w] (some (.int (f_X4_valueOf i w ω)) : Option Value) (mk X ad ω) := by
  refine ct_of [(0, .ref (ad i)), (1, .int w)] (by decide +kernel) rfl rfl (Nat.le_of_ble_eq_true rfl) rfl ?_
  intro p_ e_ s_ m_ args_ below_ meth_ c_ C hret hlk hin
  have e1 : (some (.int (f_X4_valueOf i w ω)) : Option Value) = (some (.int (f_X4_valueOf i w ω)) : Option Value) := rfl
  have e2 : mk X ad ω = mk X ad ω := rfl
  have iX4 : ∀ w ∈ u_ws RX4 TX4 1, w ∈ wsX4_valueOf := by decide +kernel
  have IX7 : Cond.initialized RX7 ∈ wsX4_valueOf := by decide +kernel
  have L13 : Cond.fieldLink RX4 13 (TX4 0).1 (TX4 0).2.1 (TX4 0).2.2.1 ∈ wsX4_valueOf := by decide +kernel
  have TX7_elementAt : Cond.static yX7_elementAt ∈ wsX4_valueOf := by decide +kernel
  refine g_aload_n C dX4_valueOf_0 rfl 0 rfl ?_
  refine g_get (v := .ref (ad (i + 1))) C iX4 (hi).1 (mk_2 (hi).2.1) rfl 0 (by decide) L13 rfl dX4_valueOf_1 ?_
  refine g_iload_n C dX4_valueOf_4 rfl 1 rfl ?_
  refine g_callSN (rest := []) (st1 := [.int (f_X7_elementAt 4 (i + 1) w ω)]) C (c_X7_elementAt 4 (i + 1) w hi.2.2 (by omega) ω) (va_cnB 2 C.hts gX4_valueOf_X7_elementAt_n25 rfl rfl rfl (nw7 C.hN) (C.hts _ IX7) md_X7_elementAt.2 ⟨Nat.le_of_ble_eq_true rfl, Nat.le_of_ble_eq_true rfl⟩) TX7_elementAt rfl rfl rfl (Nat.le_of_ble_eq_true rfl) dX4_valueOf_5 (Nat.zero_le _) (Nat.zero_le _) ?_
  exact g_iret C hret hlk (e1.trans (congrArg (fun z => some (Value.int z)) rfl)) e2 dX4_valueOf_8
theorem isOne_in {w : Int32} {ω : Mem} (h : ¬ f_X4_isOne w ω = 0) : vp_in w 4 := by
  unfold f_X4_isOne f_X7_isWithin at h
  by_cases h1 : w < 0
  · rw [if_pos h1] at h
    exact absurd rfl h
  · rw [if_neg h1] at h
    by_cases h2 : (3 : Int32) < w
    · have e : (4 : Int32) - 1 = 3 := by decide
      rw [if_pos h2] at h
      exact absurd rfl h
    · rw [vp_in_iff]
      rw [Int32.lt_iff_toInt_lt] at h1 h2
      have e0 : (0 : Int32).toInt = 0 := rfl
      have e3 : (3 : Int32).toInt = 3 := rfl
      omega
abbrev rm_X4_change : Room := { frames := 2, cells := 0, slots := 0, locals := 42 }
theorem md_X4_change : yX4_change.cls = RX4 ∧ yX4_change.cls ≠ "java/lang/invoke/MethodHandle" ∧ yX4_change.cls ≠ "java/lang/invoke/VarHandle" ∧ (parseMethodDescriptor yX4_change.desc).map (fun d => d.parameters.length) = some 2 := by decide +kernel
def f_X4_change (i : Nat) (w : Int32) (v : Int32) (ω : Mem) : Mem := (if (f_X4_isOne w ω) = 0 then ω else (st ω (i + 1) w.toNatClampNeg v))
set_option maxRecDepth 100000 in
set_option maxHeartbeats 4000000 in
theorem c_X4_change {l_ : Launch} {sa : Nat → Nat} {D : va_G} {X : Nat → ClassId} {ad : Nat → Nat} (i : Nat) (w : Int32) (v : Int32) (hi : isSet i) (ω : Mem)  : CT l_ yX4_change wsX4_change rm_X4_change sa D (tyX X) 120 ad (mk X ad ω) [.ref (ad i), .int w, .int v] (none : Option Value) (mk X ad (f_X4_change i w v ω)) := by
  refine ct_of [(0, .ref (ad i)), (1, .int w), (2, .int v)] (by decide +kernel) rfl rfl (Nat.le_of_ble_eq_true rfl) rfl ?_
  intro p_ e_ s_ m_ args_ below_ meth_ c_ C hret hlk hin
  have e1 : (none : Option Value) = (none : Option Value) := rfl
  have e2 : mk X ad (f_X4_change i w v ω) = mk X ad (f_X4_change i w v ω) := rfl
  have iX4 : ∀ w ∈ u_ws RX4 TX4 1, w ∈ wsX4_change := by decide +kernel
  have L13 : Cond.fieldLink RX4 13 (TX4 0).1 (TX4 0).2.1 (TX4 0).2.2.1 ∈ wsX4_change := by decide +kernel
  refine g_iload_n C dX4_change_0 rfl 1 rfl ?_
  refine g_callS (rest := []) (st1 := [.int (f_X4_isOne w ω)]) C (c_X4_isOne w ω) (va_cwS 1 C.hts gX4_change_X4_isOne rfl rfl rfl md_X4_isOne.2 ⟨Nat.le_of_ble_eq_true rfl, Nat.le_of_ble_eq_true rfl⟩) rfl rfl rfl (Nat.le_of_ble_eq_true rfl) dX4_change_1 (Nat.zero_le _) (Nat.zero_le _) ?_
  refine g_if_eq (tgt := 14) C dX4_change_4 (by decide) (fun h1 => ?_) (fun h1 => ?_)
  · exact g_vret C hret hlk e1 (e2.trans (congrArg (mk X ad) ((if_pos h1).trans rfl))) dX4_change_14
  · refine g_aload_n C dX4_change_7 rfl 0 rfl ?_
    refine g_get (v := .ref (ad (i + 1))) C iX4 (hi).1 (mk_2 (hi).2.1) rfl 0 (by decide) L13 rfl dX4_change_8 ?_
    refine g_iload_n C dX4_change_11 rfl 1 rfl ?_
    refine g_iload_n C dX4_change_12 rfl 2 rfl ?_
    refine g_iast (k := w.toNatClampNeg) C 0 (hi).2.2.1 (mk_12n (N := 4) (hi).2.2.2.1 (hi).2.2.2.2) rfl (isOne_in h1) rfl dX4_change_13 ?_
    refine gv_eqG (mk_row (N := 4) (hi).2.2.2.1 (hi).2.2.2.2) ?_
    exact g_vret C hret hlk e1 (e2.trans (congrArg (mk X ad) ((if_neg h1).trans rfl))) dX4_change_14
abbrev rm_X4_copyFrom : Room := { frames := 2, cells := 0, slots := 0, locals := 39 }
theorem md_X4_copyFrom : yX4_copyFrom.cls = RX4 ∧ yX4_copyFrom.cls ≠ "java/lang/invoke/MethodHandle" ∧ yX4_copyFrom.cls ≠ "java/lang/invoke/VarHandle" ∧ (parseMethodDescriptor yX4_copyFrom.desc).map (fun d => d.parameters.length) = some 1 := by decide +kernel
def f_X4_copyFrom (i : Nat) (k : Nat) (ω : Mem) : Mem := (f_X7_copyRow 4 4 (k + 1) (i + 1) ω)
set_option maxRecDepth 100000 in
set_option maxHeartbeats 4000000 in
theorem c_X4_copyFrom {l_ : Launch} {sa : Nat → Nat} {D : va_G} {X : Nat → ClassId} {ad : Nat → Nat} (i : Nat) (k : Nat) (hi : isSet i) (hk : isSet k) (ω : Mem)  : CT l_ yX4_copyFrom wsX4_copyFrom rm_X4_copyFrom sa D (tyX X) 120 ad (mk X ad ω) [.ref (ad i), .ref (ad k)] (none : Option Value) (mk X ad (f_X4_copyFrom i k ω)) := by
  refine ct_of [(0, .ref (ad i)), (1, .ref (ad k))] (by decide +kernel) rfl rfl (Nat.le_of_ble_eq_true rfl) rfl ?_
  intro p_ e_ s_ m_ args_ below_ meth_ c_ C hret hlk hin
  have e1 : (none : Option Value) = (none : Option Value) := rfl
  have e2 : mk X ad (f_X4_copyFrom i k ω) = mk X ad (f_X4_copyFrom i k ω) := rfl
  have iX4 : ∀ w ∈ u_ws RX4 TX4 1, w ∈ wsX4_copyFrom := by decide +kernel
  have IX7 : Cond.initialized RX7 ∈ wsX4_copyFrom := by decide +kernel
  have L13 : Cond.fieldLink RX4 13 (TX4 0).1 (TX4 0).2.1 (TX4 0).2.2.1 ∈ wsX4_copyFrom := by decide +kernel
  have TX7_copyRow : Cond.static yX7_copyRow ∈ wsX4_copyFrom := by decide +kernel
  refine g_aload_n C dX4_copyFrom_0 rfl 1 rfl ?_
  refine g_get (v := .ref (ad (k + 1))) C iX4 (hk).1 (mk_2 (hk).2.1) rfl 0 (by decide) L13 rfl dX4_copyFrom_1 ?_
  refine g_aload_n C dX4_copyFrom_4 rfl 0 rfl ?_
  refine g_get (v := .ref (ad (i + 1))) C iX4 (hi).1 (mk_2 (hi).2.1) rfl 0 (by decide) L13 rfl dX4_copyFrom_5 ?_
  refine g_callSN (rest := []) (st1 := []) C (c_X7_copyRow 4 4 (k + 1) (i + 1) hk.2.2 hi.2.2 (by omega) (by omega) ω) (va_cnB 2 C.hts gX4_copyFrom_X7_copyRow_n36 rfl rfl rfl (nw5 C.hN) (C.hts _ IX7) md_X7_copyRow.2 ⟨Nat.le_of_ble_eq_true rfl, Nat.le_of_ble_eq_true rfl⟩) TX7_copyRow rfl rfl rfl (Nat.le_of_ble_eq_true rfl) dX4_copyFrom_8 (Nat.zero_le _) (Nat.zero_le _) ?_
  exact g_vret C hret hlk e1 (e2.trans (congrArg (mk X ad) rfl)) dX4_copyFrom_11
abbrev rm_X0_quotient : Room := { frames := 0, cells := 0, slots := 0, locals := 0 }
theorem md_X0_quotient : yX0_quotient.cls = RX0 ∧ yX0_quotient.cls ≠ "java/lang/invoke/MethodHandle" ∧ yX0_quotient.cls ≠ "java/lang/invoke/VarHandle" ∧ (parseMethodDescriptor yX0_quotient.desc).map (fun d => d.parameters.length) = some 2 := by decide +kernel
def f_X0_quotient (a : Int32) (d : Int32) (ω : Mem) : Int32 := (if d ≤ 0 then 0 else (a / d))
set_option maxRecDepth 100000 in
set_option maxHeartbeats 4000000 in
theorem c_X0_quotient {l_ : Launch} {sa : Nat → Nat} {D : va_G} {X : Nat → ClassId} {ad : Nat → Nat} (a : Int32) (d : Int32) (ω : Mem)  : CT l_ yX0_quotient wsX0_quotient rm_X0_quotient sa D (tyX X) 120 ad (mk X ad ω) [.int a, .int d] (some (.int (f_X0_quotient a d ω)) : Option Value) (mk X ad ω) := by
  refine ct_of [(0, .int a), (1, .int d)] (by decide +kernel) rfl rfl (Nat.le_of_ble_eq_true rfl) rfl ?_
  intro p_ e_ s_ m_ args_ below_ meth_ c_ C hret hlk hin
  have e1 : (some (.int (f_X0_quotient a d ω)) : Option Value) = (some (.int (f_X0_quotient a d ω)) : Option Value) := rfl
  have e2 : mk X ad ω = mk X ad ω := rfl
  refine g_iload_n C dX0_quotient_0 rfl 1 rfl ?_
  refine g_if_le (tgt := 10) C dX0_quotient_1 (by decide) (fun h1 => ?_) (fun h1 => ?_)
  · refine g_iconst (v := 0) C dX0_quotient_10 (by decide) ?_
    exact g_iret C hret hlk (e1.trans (congrArg (fun z => some (Value.int z)) ((if_pos h1).trans rfl))) e2 dX0_quotient_11
  · refine g_iload_n C dX0_quotient_4 rfl 0 rfl ?_
    refine g_iload_n C dX0_quotient_5 rfl 1 rfl ?_
    refine g_idiv C dX0_quotient_6 (ne_of_nle h1) ?_
    refine g_goto (tgt := 11) C dX0_quotient_7 (by decide) ?_
    exact g_iret C hret hlk (e1.trans (congrArg (fun z => some (Value.int z)) ((if_neg h1).trans rfl))) e2 dX0_quotient_11
abbrev rm_X0_told : Room := { frames := 1, cells := 0, slots := 0, locals := 21 }
theorem md_X0_told : yX0_told.cls = RX0 ∧ yX0_told.cls ≠ "java/lang/invoke/MethodHandle" ∧ yX0_told.cls ≠ "java/lang/invoke/VarHandle" ∧ (parseMethodDescriptor yX0_told.desc).map (fun d => d.parameters.length) = some 2 := by decide +kernel
def f_X0_told (b : Nat) (q : String × String × List Int32) (t : Int32) (ω : Mem) : Int32 := (if t = 0 then 0 else (f_X7_elementAtT q ((((ω b 0) * 2) + t) - 1) ω))
set_option maxRecDepth 100000 in
set_option maxHeartbeats 4000000 in
theorem c_X0_told {l_ : Launch} {sa : Nat → Nat} {D : va_G} {X : Nat → ClassId} {ad : Nat → Nat} (b : Nat) (k : Nat) (q : String × String × List Int32) (t : Int32) (hb : isB b) (hsv : svL[k]? = some q) (hn : q.2.2.length < 2 ^ 31) (ω : Mem)  : CT l_ yX0_told wsX0_told rm_X0_told sa D (tyX X) 120 ad (mk X ad ω) [.ref (ad b), .ref (sa k), .int t] (some (.int (f_X0_told b q t ω)) : Option Value) (mk X ad ω) := by
  refine ct_of [(0, .ref (ad b)), (1, .ref (sa k)), (2, .int t)] (by decide +kernel) rfl rfl (Nat.le_of_ble_eq_true rfl) rfl ?_
  intro p_ e_ s_ m_ args_ below_ meth_ c_ C hret hlk hin
  have e1 : (some (.int (f_X0_told b q t ω)) : Option Value) = (some (.int (f_X0_told b q t ω)) : Option Value) := rfl
  have e2 : mk X ad ω = mk X ad ω := rfl
  have iX0 : ∀ w ∈ u_ws RX0 TX0 10, w ∈ wsX0_told := by decide +kernel
  have IX7 : Cond.initialized RX7 ∈ wsX0_told := by decide +kernel
  have L7 : Cond.fieldLink RX0 7 (TX0 0).1 (TX0 0).2.1 (TX0 0).2.2.1 ∈ wsX0_told := by decide +kernel
  have TX7_elementAt : Cond.static yX7_elementAt ∈ wsX0_told := by decide +kernel
  refine g_iload_n C dX0_told_0 rfl 2 rfl ?_
  refine g_if_ne (tgt := 6) C dX0_told_1 (by decide) (fun h1 => ?_) (fun h1 => ?_)
  · refine g_aload_n C dX0_told_6 rfl 1 rfl ?_
    refine g_aload_n C dX0_told_7 rfl 0 rfl ?_
    refine g_get (v := .int (ω b 0)) C iX0 (hb).1 (mk_4 (hb).2) rfl 0 (by decide) L7 rfl dX0_told_8 ?_
    refine g_iconst (v := 2) C dX0_told_11 (by decide) ?_
    refine g_imul (v := ((ω b 0) * 2)) C dX0_told_12 rfl ?_
    refine g_iload_n C dX0_told_13 rfl 2 rfl ?_
    refine g_iadd (v := (((ω b 0) * 2) + t)) C dX0_told_14 rfl ?_
    refine g_iconst (v := 1) C dX0_told_15 (by decide) ?_
    refine g_isub (v := ((((ω b 0) * 2) + t) - 1)) C dX0_told_16 rfl ?_
    refine g_callSN (rest := []) (st1 := [.int (f_X7_elementAtT q ((((ω b 0) * 2) + t) - 1) ω)]) C (c_X7_elementAtT k q ((((ω b 0) * 2) + t) - 1) hsv (by omega) ω) (va_cnB 2 C.hts gX0_told_X7_elementAt_n66 rfl rfl rfl (nw0 C.hN) (C.hts _ IX7) md_X7_elementAt.2 ⟨Nat.le_of_ble_eq_true rfl, Nat.le_of_ble_eq_true rfl⟩) TX7_elementAt rfl rfl rfl (Nat.le_of_ble_eq_true rfl) dX0_told_17 (Nat.zero_le _) (Nat.zero_le _) ?_
    exact g_iret C hret hlk (e1.trans (congrArg (fun z => some (Value.int z)) ((if_neg h1).trans rfl))) e2 dX0_told_20
  · refine g_iconst (v := 0) C dX0_told_4 (by decide) ?_
    exact g_iret C hret hlk (e1.trans (congrArg (fun z => some (Value.int z)) ((if_pos h1).trans rfl))) e2 dX0_told_5
abbrev rm_X0_flow : Room := { frames := 2, cells := 0, slots := 0, locals := 43 }
theorem md_X0_flow : yX0_flow.cls = RX0 ∧ yX0_flow.cls ≠ "java/lang/invoke/MethodHandle" ∧ yX0_flow.cls ≠ "java/lang/invoke/VarHandle" ∧ (parseMethodDescriptor yX0_flow.desc).map (fun d => d.parameters.length) = some 0 := by decide +kernel
def f_X0_flow (b : Nat) (ω : Mem) : Int32 := (f_X0_told b ("FlameGuards$Burner", "FLOW", ([2, 4, 4, 9, 6, 14] : List Int32)) (ω b 1) ω)
set_option maxRecDepth 100000 in
set_option maxHeartbeats 4000000 in
theorem c_X0_flow {l_ : Launch} {sa : Nat → Nat} {D : va_G} {X : Nat → ClassId} {ad : Nat → Nat} (b : Nat) (hb : isB b) (ω : Mem)  : CT l_ yX0_flow wsX0_flow rm_X0_flow sa D (tyX X) 120 ad (mk X ad ω) [.ref (ad b)] (some (.int (f_X0_flow b ω)) : Option Value) (mk X ad ω) := by
  refine ct_of [(0, .ref (ad b))] (by decide +kernel) rfl rfl (Nat.le_of_ble_eq_true rfl) rfl ?_
  intro p_ e_ s_ m_ args_ below_ meth_ c_ C hret hlk hin
  have e1 : (some (.int (f_X0_flow b ω)) : Option Value) = (some (.int (f_X0_flow b ω)) : Option Value) := rfl
  have e2 : mk X ad ω = mk X ad ω := rfl
  have iX0 : ∀ w ∈ u_ws RX0 TX0 10, w ∈ wsX0_flow := by decide +kernel
  have L13 : Cond.fieldLink RX0 13 (TX0 1).1 (TX0 1).2.1 (TX0 1).2.2.1 ∈ wsX0_flow := by decide +kernel
  have S41 : Cond.fieldLink RX0 41 "FlameGuards$Burner" "FLOW" "[I" ∈ wsX0_flow := by decide +kernel
  refine g_aload_n C dX0_flow_0 rfl 0 rfl ?_
  refine g_gets C 3 rfl S41 dX0_flow_1 ?_
  refine g_aload_n C dX0_flow_4 rfl 0 rfl ?_
  refine g_get (v := .int (ω b 1)) C iX0 (hb).1 (mk_4 (hb).2) rfl 1 (by decide) L13 rfl dX0_flow_5 ?_
  refine g_callV (rest := []) (st1 := [.int (f_X0_told b ("FlameGuards$Burner", "FLOW", ([2, 4, 4, 9, 6, 14] : List Int32)) (ω b 1) ω)]) C (c_X0_told b 3 ("FlameGuards$Burner", "FLOW", ([2, 4, 4, 9, 6, 14] : List Int32)) (ω b 1) hb rfl (by decide) ω) (cwV 2 C.hts gX0_flow_X0_told rfl rfl rfl md_X0_told ⟨Nat.le_of_ble_eq_true rfl, Nat.le_of_ble_eq_true rfl⟩) (hb).1 (mk_4 (hb).2) rfl rfl rfl rfl rfl (Nat.le_of_ble_eq_true rfl) dX0_flow_8 (Nat.zero_le _) (Nat.zero_le _) ?_
  exact g_iret C hret hlk (e1.trans (congrArg (fun z => some (Value.int z)) rfl)) e2 dX0_flow_11
abbrev rm_X0_strength : Room := { frames := 2, cells := 0, slots := 0, locals := 43 }
theorem md_X0_strength : yX0_strength.cls = RX0 ∧ yX0_strength.cls ≠ "java/lang/invoke/MethodHandle" ∧ yX0_strength.cls ≠ "java/lang/invoke/VarHandle" ∧ (parseMethodDescriptor yX0_strength.desc).map (fun d => d.parameters.length) = some 0 := by decide +kernel
def f_X0_strength (b : Nat) (ω : Mem) : Int32 := (f_X0_told b ("FlameGuards$Burner", "STRENGTH", ([2, 4, 3, 6, 1, 5] : List Int32)) (ω b 1) ω)
set_option maxRecDepth 100000 in
set_option maxHeartbeats 4000000 in
theorem c_X0_strength {l_ : Launch} {sa : Nat → Nat} {D : va_G} {X : Nat → ClassId} {ad : Nat → Nat} (b : Nat) (hb : isB b) (ω : Mem)  : CT l_ yX0_strength wsX0_strength rm_X0_strength sa D (tyX X) 120 ad (mk X ad ω) [.ref (ad b)] (some (.int (f_X0_strength b ω)) : Option Value) (mk X ad ω) := by
  refine ct_of [(0, .ref (ad b))] (by decide +kernel) rfl rfl (Nat.le_of_ble_eq_true rfl) rfl ?_
  intro p_ e_ s_ m_ args_ below_ meth_ c_ C hret hlk hin
  have e1 : (some (.int (f_X0_strength b ω)) : Option Value) = (some (.int (f_X0_strength b ω)) : Option Value) := rfl
  have e2 : mk X ad ω = mk X ad ω := rfl
  have iX0 : ∀ w ∈ u_ws RX0 TX0 10, w ∈ wsX0_strength := by decide +kernel
  have L13 : Cond.fieldLink RX0 13 (TX0 1).1 (TX0 1).2.1 (TX0 1).2.2.1 ∈ wsX0_strength := by decide +kernel
  have S49 : Cond.fieldLink RX0 49 "FlameGuards$Burner" "STRENGTH" "[I" ∈ wsX0_strength := by decide +kernel
  refine g_aload_n C dX0_strength_0 rfl 0 rfl ?_
  refine g_gets C 5 rfl S49 dX0_strength_1 ?_
  refine g_aload_n C dX0_strength_4 rfl 0 rfl ?_
  refine g_get (v := .int (ω b 1)) C iX0 (hb).1 (mk_4 (hb).2) rfl 1 (by decide) L13 rfl dX0_strength_5 ?_
  refine g_callV (rest := []) (st1 := [.int (f_X0_told b ("FlameGuards$Burner", "STRENGTH", ([2, 4, 3, 6, 1, 5] : List Int32)) (ω b 1) ω)]) C (c_X0_told b 5 ("FlameGuards$Burner", "STRENGTH", ([2, 4, 3, 6, 1, 5] : List Int32)) (ω b 1) hb rfl (by decide) ω) (cwV 2 C.hts gX0_strength_X0_told rfl rfl rfl md_X0_told ⟨Nat.le_of_ble_eq_true rfl, Nat.le_of_ble_eq_true rfl⟩) (hb).1 (mk_4 (hb).2) rfl rfl rfl rfl rfl (Nat.le_of_ble_eq_true rfl) dX0_strength_8 (Nat.zero_le _) (Nat.zero_le _) ?_
  exact g_iret C hret hlk (e1.trans (congrArg (fun z => some (Value.int z)) rfl)) e2 dX0_strength_11
abbrev rm_X0_heatAt : Room := { frames := 2, cells := 0, slots := 0, locals := 43 }
theorem md_X0_heatAt : yX0_heatAt.cls = RX0 ∧ yX0_heatAt.cls ≠ "java/lang/invoke/MethodHandle" ∧ yX0_heatAt.cls ≠ "java/lang/invoke/VarHandle" ∧ (parseMethodDescriptor yX0_heatAt.desc).map (fun d => d.parameters.length) = some 1 := by decide +kernel
def f_X0_heatAt (b : Nat) (t : Int32) (ω : Mem) : Int32 := (f_X0_told b ("FlameGuards$Burner", "HEAT", ([500, 700, 600, 850, 550, 900] : List Int32)) t ω)
set_option maxRecDepth 100000 in
set_option maxHeartbeats 4000000 in
theorem c_X0_heatAt {l_ : Launch} {sa : Nat → Nat} {D : va_G} {X : Nat → ClassId} {ad : Nat → Nat} (b : Nat) (t : Int32) (hb : isB b) (ω : Mem)  : CT l_ yX0_heatAt wsX0_heatAt rm_X0_heatAt sa D (tyX X) 120 ad (mk X ad ω) [.ref (ad b), .int t] (some (.int (f_X0_heatAt b t ω)) : Option Value) (mk X ad ω) := by
  refine ct_of [(0, .ref (ad b)), (1, .int t)] (by decide +kernel) rfl rfl (Nat.le_of_ble_eq_true rfl) rfl ?_
  intro p_ e_ s_ m_ args_ below_ meth_ c_ C hret hlk hin
  have e1 : (some (.int (f_X0_heatAt b t ω)) : Option Value) = (some (.int (f_X0_heatAt b t ω)) : Option Value) := rfl
  have e2 : mk X ad ω = mk X ad ω := rfl
  have S52 : Cond.fieldLink RX0 52 "FlameGuards$Burner" "HEAT" "[I" ∈ wsX0_heatAt := by decide +kernel
  refine g_aload_n C dX0_heatAt_0 rfl 0 rfl ?_
  refine g_gets C 4 rfl S52 dX0_heatAt_1 ?_
  refine g_iload_n C dX0_heatAt_4 rfl 1 rfl ?_
  refine g_callV (rest := []) (st1 := [.int (f_X0_told b ("FlameGuards$Burner", "HEAT", ([500, 700, 600, 850, 550, 900] : List Int32)) t ω)]) C (c_X0_told b 4 ("FlameGuards$Burner", "HEAT", ([500, 700, 600, 850, 550, 900] : List Int32)) t hb rfl (by decide) ω) (cwV 2 C.hts gX0_heatAt_X0_told rfl rfl rfl md_X0_told ⟨Nat.le_of_ble_eq_true rfl, Nat.le_of_ble_eq_true rfl⟩) (hb).1 (mk_4 (hb).2) rfl rfl rfl rfl rfl (Nat.le_of_ble_eq_true rfl) dX0_heatAt_5 (Nat.zero_le _) (Nat.zero_le _) ?_
  exact g_iret C hret hlk (e1.trans (congrArg (fun z => some (Value.int z)) rfl)) e2 dX0_heatAt_8
abbrev rm_X0_isOpen : Room := { frames := 0, cells := 0, slots := 0, locals := 0 }
theorem md_X0_isOpen : yX0_isOpen.cls = RX0 ∧ yX0_isOpen.cls ≠ "java/lang/invoke/MethodHandle" ∧ yX0_isOpen.cls ≠ "java/lang/invoke/VarHandle" ∧ (parseMethodDescriptor yX0_isOpen.desc).map (fun d => d.parameters.length) = some 1 := by decide +kernel
def f_X0_isOpen (b : Nat) (t : Int32) (ω : Mem) : Int32 := (if (bb (ω b 6)) = 0 then (if (ω b 1) = 0 then 0 else (if (bb (ω b 2)) = 0 then (if (ω b 5) < t then 0 else 1) else 1)) else 0)
set_option maxRecDepth 100000 in
set_option maxHeartbeats 4000000 in
theorem c_X0_isOpen {l_ : Launch} {sa : Nat → Nat} {D : va_G} {X : Nat → ClassId} {ad : Nat → Nat} (b : Nat) (t : Int32) (hb : isB b) (ω : Mem)  : CT l_ yX0_isOpen wsX0_isOpen rm_X0_isOpen sa D (tyX X) 120 ad (mk X ad ω) [.ref (ad b), .int t] (some (.int (f_X0_isOpen b t ω)) : Option Value) (mk X ad ω) := by
  refine ct_of [(0, .ref (ad b)), (1, .int t)] (by decide +kernel) rfl rfl (Nat.le_of_ble_eq_true rfl) rfl ?_
  intro p_ e_ s_ m_ args_ below_ meth_ c_ C hret hlk hin
  have e1 : (some (.int (f_X0_isOpen b t ω)) : Option Value) = (some (.int (f_X0_isOpen b t ω)) : Option Value) := rfl
  have e2 : mk X ad ω = mk X ad ω := rfl
  have iX0 : ∀ w ∈ u_ws RX0 TX0 10, w ∈ wsX0_isOpen := by decide +kernel
  have L13 : Cond.fieldLink RX0 13 (TX0 1).1 (TX0 1).2.1 (TX0 1).2.2.1 ∈ wsX0_isOpen := by decide +kernel
  have L16 : Cond.fieldLink RX0 16 (TX0 2).1 (TX0 2).2.1 (TX0 2).2.2.1 ∈ wsX0_isOpen := by decide +kernel
  have L26 : Cond.fieldLink RX0 26 (TX0 5).1 (TX0 5).2.1 (TX0 5).2.2.1 ∈ wsX0_isOpen := by decide +kernel
  have L29 : Cond.fieldLink RX0 29 (TX0 6).1 (TX0 6).2.1 (TX0 6).2.2.1 ∈ wsX0_isOpen := by decide +kernel
  refine g_aload_n C dX0_isOpen_0 rfl 0 rfl ?_
  refine g_get (v := .int (bb (ω b 6))) C iX0 (hb).1 (mk_4 (hb).2) rfl 6 (by decide) L29 rfl dX0_isOpen_1 ?_
  refine g_if_ne (tgt := 33) C dX0_isOpen_4 (by decide) (fun h1 => ?_) (fun h1 => ?_)
  · refine g_iconst (v := 0) C dX0_isOpen_33 (by decide) ?_
    exact g_zret C hret hlk (nar_b (by decide)).1 (e1.trans (congrArg (fun z => some (Value.int z)) ((if_neg h1).trans rfl))) e2 dX0_isOpen_34
  · refine g_aload_n C dX0_isOpen_7 rfl 0 rfl ?_
    refine g_get (v := .int (ω b 1)) C iX0 (hb).1 (mk_4 (hb).2) rfl 1 (by decide) L13 rfl dX0_isOpen_8 ?_
    refine g_if_eq (tgt := 33) C dX0_isOpen_11 (by decide) (fun h2 => ?_) (fun h2 => ?_)
    · refine g_iconst (v := 0) C dX0_isOpen_33 (by decide) ?_
      exact g_zret C hret hlk (nar_b (by decide)).1 (e1.trans (congrArg (fun z => some (Value.int z)) ((if_pos h1).trans ((if_pos h2).trans rfl)))) e2 dX0_isOpen_34
    · refine g_aload_n C dX0_isOpen_14 rfl 0 rfl ?_
      refine g_get (v := .int (bb (ω b 2))) C iX0 (hb).1 (mk_4 (hb).2) rfl 2 (by decide) L16 rfl dX0_isOpen_15 ?_
      refine g_if_ne (tgt := 29) C dX0_isOpen_18 (by decide) (fun h3 => ?_) (fun h3 => ?_)
      · refine g_iconst (v := 1) C dX0_isOpen_29 (by decide) ?_
        refine g_goto (tgt := 34) C dX0_isOpen_30 (by decide) ?_
        exact g_zret C hret hlk (nar_b (by decide)).1 (e1.trans (congrArg (fun z => some (Value.int z)) ((if_pos h1).trans ((if_neg h2).trans ((if_neg h3).trans rfl))))) e2 dX0_isOpen_34
      · refine g_aload_n C dX0_isOpen_21 rfl 0 rfl ?_
        refine g_get (v := .int (ω b 5)) C iX0 (hb).1 (mk_4 (hb).2) rfl 5 (by decide) L26 rfl dX0_isOpen_22 ?_
        refine g_iload_n C dX0_isOpen_25 rfl 1 rfl ?_
        refine g_icmp_lt (tgt := 33) C dX0_isOpen_26 (by decide) (fun h4 => ?_) (fun h4 => ?_)
        · refine g_iconst (v := 0) C dX0_isOpen_33 (by decide) ?_
          exact g_zret C hret hlk (nar_b (by decide)).1 (e1.trans (congrArg (fun z => some (Value.int z)) ((if_pos h1).trans ((if_neg h2).trans ((if_pos h3).trans ((if_pos h4).trans rfl)))))) e2 dX0_isOpen_34
        · refine g_iconst (v := 1) C dX0_isOpen_29 (by decide) ?_
          refine g_goto (tgt := 34) C dX0_isOpen_30 (by decide) ?_
          exact g_zret C hret hlk (nar_b (by decide)).1 (e1.trans (congrArg (fun z => some (Value.int z)) ((if_pos h1).trans ((if_neg h2).trans ((if_pos h3).trans ((if_neg h4).trans rfl)))))) e2 dX0_isOpen_34
theorem z_X0_isOpen {b : Nat} {t : Int32} {ω : Mem} : bb (f_X0_isOpen b t ω) = f_X0_isOpen b t ω := by
  unfold f_X0_isOpen
  repeat' split
  all_goals first | with_reducible exact bb_bb _ | decide
abbrev rm_X0_temperatureAfter : Room := { frames := 1, cells := 0, slots := 0, locals := 21 }
theorem md_X0_temperatureAfter : yX0_temperatureAfter.cls = RX0 ∧ yX0_temperatureAfter.cls ≠ "java/lang/invoke/MethodHandle" ∧ yX0_temperatureAfter.cls ≠ "java/lang/invoke/VarHandle" ∧ (parseMethodDescriptor yX0_temperatureAfter.desc).map (fun d => d.parameters.length) = some 2 := by decide +kernel
def f_X0_temperatureAfter (b : Nat) (t : Int32) (g : Int32) (ω : Mem) : Int32 := (if g ≤ t then (if t ≤ g then t else (if g < ((t - (f_X0_quotient t (f_X7_elementAtT ("FlameGuards$Burner", "COOLING", ([10, 14, 20] : List Int32)) (ω b 0) ω) ω)) - 1) then ((t - (f_X0_quotient t (f_X7_elementAtT ("FlameGuards$Burner", "COOLING", ([10, 14, 20] : List Int32)) (ω b 0) ω) ω)) - 1) else g)) else (if ((t + (f_X0_quotient (g - t) (f_X7_elementAtT ("FlameGuards$Burner", "WARMING", ([8, 6, 10] : List Int32)) (ω b 0) ω) ω)) + 1) < g then ((t + (f_X0_quotient (g - t) (f_X7_elementAtT ("FlameGuards$Burner", "WARMING", ([8, 6, 10] : List Int32)) (ω b 0) ω) ω)) + 1) else g))
set_option maxRecDepth 100000 in
set_option maxHeartbeats 4000000 in
theorem c_X0_temperatureAfter {l_ : Launch} {sa : Nat → Nat} {D : va_G} {X : Nat → ClassId} {ad : Nat → Nat} (b : Nat) (t : Int32) (g : Int32) (hb : isB b) (ω : Mem)  : CT l_ yX0_temperatureAfter wsX0_temperatureAfter rm_X0_temperatureAfter sa D (tyX X) 120 ad (mk X ad ω) [.ref (ad b), .int t, .int g] (some (.int (f_X0_temperatureAfter b t g ω)) : Option Value) (mk X ad ω) := by
  refine ct_of [(0, .ref (ad b)), (1, .int t), (2, .int g)] (by decide +kernel) rfl rfl (Nat.le_of_ble_eq_true rfl) rfl ?_
  intro p_ e_ s_ m_ args_ below_ meth_ c_ C hret hlk hin
  have e1 : (some (.int (f_X0_temperatureAfter b t g ω)) : Option Value) = (some (.int (f_X0_temperatureAfter b t g ω)) : Option Value) := rfl
  have e2 : mk X ad ω = mk X ad ω := rfl
  have iX0 : ∀ w ∈ u_ws RX0 TX0 10, w ∈ wsX0_temperatureAfter := by decide +kernel
  have IX7 : Cond.initialized RX7 ∈ wsX0_temperatureAfter := by decide +kernel
  have L7 : Cond.fieldLink RX0 7 (TX0 0).1 (TX0 0).2.1 (TX0 0).2.2.1 ∈ wsX0_temperatureAfter := by decide +kernel
  have M74a : Cond.methodLink RX0 74 Lib.Math.min.name ∈ wsX0_temperatureAfter := by decide +kernel
  have M82a : Cond.methodLink RX0 82 Lib.Math.max.name ∈ wsX0_temperatureAfter := by decide +kernel
  have Mini : Cond.initialized "java/lang/Math" ∈ wsX0_temperatureAfter := by decide +kernel
  have Mmaxb : Cond.static Lib.Math.max.name ∈ wsX0_temperatureAfter := by decide +kernel
  have Mmaxc : Cond.code Lib.Math.max.name Lib.Math.max.code 2 (some .int) ∈ wsX0_temperatureAfter := by decide +kernel
  have Mminb : Cond.static Lib.Math.min.name ∈ wsX0_temperatureAfter := by decide +kernel
  have Mminc : Cond.code Lib.Math.min.name Lib.Math.min.code 2 (some .int) ∈ wsX0_temperatureAfter := by decide +kernel
  have S63 : Cond.fieldLink RX0 63 "FlameGuards$Burner" "WARMING" "[I" ∈ wsX0_temperatureAfter := by decide +kernel
  have S79 : Cond.fieldLink RX0 79 "FlameGuards$Burner" "COOLING" "[I" ∈ wsX0_temperatureAfter := by decide +kernel
  have TX7_elementAt : Cond.static yX7_elementAt ∈ wsX0_temperatureAfter := by decide +kernel
  refine g_iload_n C dX0_temperatureAfter_0 rfl 1 rfl ?_
  refine g_iload_n C dX0_temperatureAfter_1 rfl 2 rfl ?_
  refine g_icmp_ge (tgt := 30) C dX0_temperatureAfter_2 (by decide) (fun h1 => ?_) (fun h1 => ?_)
  · refine g_iload_n C dX0_temperatureAfter_30 rfl 1 rfl ?_
    refine g_iload_n C dX0_temperatureAfter_31 rfl 2 rfl ?_
    refine g_icmp_le (tgt := 58) C dX0_temperatureAfter_32 (by decide) (fun h2 => ?_) (fun h2 => ?_)
    · refine g_iload_n C dX0_temperatureAfter_58 rfl 1 rfl ?_
      exact g_iret C hret hlk (e1.trans (congrArg (fun z => some (Value.int z)) ((if_pos h1).trans ((if_pos h2).trans rfl)))) e2 dX0_temperatureAfter_59
    · refine g_iload_n C dX0_temperatureAfter_35 rfl 2 rfl ?_
      refine g_iload_n C dX0_temperatureAfter_36 rfl 1 rfl ?_
      refine g_iload_n C dX0_temperatureAfter_37 rfl 1 rfl ?_
      refine g_gets C 7 rfl S79 dX0_temperatureAfter_38 ?_
      refine g_aload_n C dX0_temperatureAfter_41 rfl 0 rfl ?_
      refine g_get (v := .int (ω b 0)) C iX0 (hb).1 (mk_4 (hb).2) rfl 0 (by decide) L7 rfl dX0_temperatureAfter_42 ?_
      refine g_callSN (rest := [.int t, .int t, .int g]) (st1 := [.int (f_X7_elementAtT ("FlameGuards$Burner", "COOLING", ([10, 14, 20] : List Int32)) (ω b 0) ω), .int t, .int t, .int g]) C (c_X7_elementAtT 7 ("FlameGuards$Burner", "COOLING", ([10, 14, 20] : List Int32)) (ω b 0) rfl (by decide) ω) (va_cnB 2 C.hts gX0_temperatureAfter_X7_elementAt_n66 rfl rfl rfl (nw0 C.hN) (C.hts _ IX7) md_X7_elementAt.2 ⟨Nat.le_of_ble_eq_true rfl, Nat.le_of_ble_eq_true rfl⟩) TX7_elementAt rfl rfl rfl (Nat.le_of_ble_eq_true rfl) dX0_temperatureAfter_45 (Nat.zero_le _) (Nat.zero_le _) ?_
      refine g_callS (rest := [.int t, .int g]) (st1 := [.int (f_X0_quotient t (f_X7_elementAtT ("FlameGuards$Burner", "COOLING", ([10, 14, 20] : List Int32)) (ω b 0) ω) ω), .int t, .int g]) C (c_X0_quotient t (f_X7_elementAtT ("FlameGuards$Burner", "COOLING", ([10, 14, 20] : List Int32)) (ω b 0) ω) ω) (va_cwS 2 C.hts gX0_temperatureAfter_X0_quotient rfl rfl rfl md_X0_quotient.2 ⟨Nat.le_of_ble_eq_true rfl, Nat.le_of_ble_eq_true rfl⟩) rfl rfl rfl (Nat.le_of_ble_eq_true rfl) dX0_temperatureAfter_48 (Nat.zero_le _) (Nat.zero_le _) ?_
      refine g_isub (v := (t - (f_X0_quotient t (f_X7_elementAtT ("FlameGuards$Burner", "COOLING", ([10, 14, 20] : List Int32)) (ω b 0) ω) ω))) C dX0_temperatureAfter_51 rfl ?_
      refine g_iconst (v := 1) C dX0_temperatureAfter_52 (by decide) ?_
      refine g_isub (v := ((t - (f_X0_quotient t (f_X7_elementAtT ("FlameGuards$Burner", "COOLING", ([10, 14, 20] : List Int32)) (ω b 0) ω) ω)) - 1)) C dX0_temperatureAfter_53 rfl ?_
      refine g_mmax (v := (if g < ((t - (f_X0_quotient t (f_X7_elementAtT ("FlameGuards$Burner", "COOLING", ([10, 14, 20] : List Int32)) (ω b 0) ω) ω)) - 1) then ((t - (f_X0_quotient t (f_X7_elementAtT ("FlameGuards$Burner", "COOLING", ([10, 14, 20] : List Int32)) (ω b 0) ω) ω)) - 1) else g)) C M82a Mmaxb Mini Mmaxc (Nat.le_of_ble_eq_true rfl) (Nat.le_of_ble_eq_true rfl) (Nat.zero_le _) (Nat.zero_le _) dX0_temperatureAfter_54 rfl ?_
      exact g_iret C hret hlk (e1.trans (congrArg (fun z => some (Value.int z)) ((if_pos h1).trans ((if_neg h2).trans rfl)))) e2 dX0_temperatureAfter_57
  · refine g_iload_n C dX0_temperatureAfter_5 rfl 2 rfl ?_
    refine g_iload_n C dX0_temperatureAfter_6 rfl 1 rfl ?_
    refine g_iload_n C dX0_temperatureAfter_7 rfl 2 rfl ?_
    refine g_iload_n C dX0_temperatureAfter_8 rfl 1 rfl ?_
    refine g_isub (v := (g - t)) C dX0_temperatureAfter_9 rfl ?_
    refine g_gets C 6 rfl S63 dX0_temperatureAfter_10 ?_
    refine g_aload_n C dX0_temperatureAfter_13 rfl 0 rfl ?_
    refine g_get (v := .int (ω b 0)) C iX0 (hb).1 (mk_4 (hb).2) rfl 0 (by decide) L7 rfl dX0_temperatureAfter_14 ?_
    refine g_callSN (rest := [.int (g - t), .int t, .int g]) (st1 := [.int (f_X7_elementAtT ("FlameGuards$Burner", "WARMING", ([8, 6, 10] : List Int32)) (ω b 0) ω), .int (g - t), .int t, .int g]) C (c_X7_elementAtT 6 ("FlameGuards$Burner", "WARMING", ([8, 6, 10] : List Int32)) (ω b 0) rfl (by decide) ω) (va_cnB 2 C.hts gX0_temperatureAfter_X7_elementAt_n66 rfl rfl rfl (nw0 C.hN) (C.hts _ IX7) md_X7_elementAt.2 ⟨Nat.le_of_ble_eq_true rfl, Nat.le_of_ble_eq_true rfl⟩) TX7_elementAt rfl rfl rfl (Nat.le_of_ble_eq_true rfl) dX0_temperatureAfter_17 (Nat.zero_le _) (Nat.zero_le _) ?_
    refine g_callS (rest := [.int t, .int g]) (st1 := [.int (f_X0_quotient (g - t) (f_X7_elementAtT ("FlameGuards$Burner", "WARMING", ([8, 6, 10] : List Int32)) (ω b 0) ω) ω), .int t, .int g]) C (c_X0_quotient (g - t) (f_X7_elementAtT ("FlameGuards$Burner", "WARMING", ([8, 6, 10] : List Int32)) (ω b 0) ω) ω) (va_cwS 2 C.hts gX0_temperatureAfter_X0_quotient rfl rfl rfl md_X0_quotient.2 ⟨Nat.le_of_ble_eq_true rfl, Nat.le_of_ble_eq_true rfl⟩) rfl rfl rfl (Nat.le_of_ble_eq_true rfl) dX0_temperatureAfter_20 (Nat.zero_le _) (Nat.zero_le _) ?_
    refine g_iadd (v := (t + (f_X0_quotient (g - t) (f_X7_elementAtT ("FlameGuards$Burner", "WARMING", ([8, 6, 10] : List Int32)) (ω b 0) ω) ω))) C dX0_temperatureAfter_23 rfl ?_
    refine g_iconst (v := 1) C dX0_temperatureAfter_24 (by decide) ?_
    refine g_iadd (v := ((t + (f_X0_quotient (g - t) (f_X7_elementAtT ("FlameGuards$Burner", "WARMING", ([8, 6, 10] : List Int32)) (ω b 0) ω) ω)) + 1)) C dX0_temperatureAfter_25 rfl ?_
    refine g_mmin (v := (if ((t + (f_X0_quotient (g - t) (f_X7_elementAtT ("FlameGuards$Burner", "WARMING", ([8, 6, 10] : List Int32)) (ω b 0) ω) ω)) + 1) < g then ((t + (f_X0_quotient (g - t) (f_X7_elementAtT ("FlameGuards$Burner", "WARMING", ([8, 6, 10] : List Int32)) (ω b 0) ω) ω)) + 1) else g)) C M74a Mminb Mini Mminc (Nat.le_of_ble_eq_true rfl) (Nat.le_of_ble_eq_true rfl) (Nat.zero_le _) (Nat.zero_le _) dX0_temperatureAfter_26 rfl ?_
    exact g_iret C hret hlk (e1.trans (congrArg (fun z => some (Value.int z)) ((if_neg h1).trans rfl))) e2 dX0_temperatureAfter_29
abbrev rm_X0_warmOrCool : Room := { frames := 3, cells := 0, slots := 0, locals := 64 }
theorem md_X0_warmOrCool : yX0_warmOrCool.cls = RX0 ∧ yX0_warmOrCool.cls ≠ "java/lang/invoke/MethodHandle" ∧ yX0_warmOrCool.cls ≠ "java/lang/invoke/VarHandle" ∧ (parseMethodDescriptor yX0_warmOrCool.desc).map (fun d => d.parameters.length) = some 0 := by decide +kernel
def f_X0_warmOrCool (b : Nat) (ω : Mem) : Mem := (if (bb (ω b 4)) = 0 then (st ω b 5 (f_X0_temperatureAfter b (ω b 5) 0 ω)) else (st ω b 5 (f_X0_temperatureAfter b (ω b 5) (f_X0_heatAt b (ω b 1) ω) ω)))
set_option maxRecDepth 100000 in
set_option maxHeartbeats 4000000 in
theorem c_X0_warmOrCool {l_ : Launch} {sa : Nat → Nat} {D : va_G} {X : Nat → ClassId} {ad : Nat → Nat} (b : Nat) (hb : isB b) (ω : Mem)  : CT l_ yX0_warmOrCool wsX0_warmOrCool rm_X0_warmOrCool sa D (tyX X) 120 ad (mk X ad ω) [.ref (ad b)] (none : Option Value) (mk X ad (f_X0_warmOrCool b ω)) := by
  refine ct_of [(0, .ref (ad b))] (by decide +kernel) rfl rfl (Nat.le_of_ble_eq_true rfl) rfl ?_
  intro p_ e_ s_ m_ args_ below_ meth_ c_ C hret hlk hin
  have e1 : (none : Option Value) = (none : Option Value) := rfl
  have e2 : mk X ad (f_X0_warmOrCool b ω) = mk X ad (f_X0_warmOrCool b ω) := rfl
  have iX0 : ∀ w ∈ u_ws RX0 TX0 10, w ∈ wsX0_warmOrCool := by decide +kernel
  have L13 : Cond.fieldLink RX0 13 (TX0 1).1 (TX0 1).2.1 (TX0 1).2.2.1 ∈ wsX0_warmOrCool := by decide +kernel
  have L23 : Cond.fieldLink RX0 23 (TX0 4).1 (TX0 4).2.1 (TX0 4).2.2.1 ∈ wsX0_warmOrCool := by decide +kernel
  have L26 : Cond.fieldLink RX0 26 (TX0 5).1 (TX0 5).2.1 (TX0 5).2.2.1 ∈ wsX0_warmOrCool := by decide +kernel
  refine g_aload_n C dX0_warmOrCool_0 rfl 0 rfl ?_
  refine g_aload_n C dX0_warmOrCool_1 rfl 0 rfl ?_
  refine g_aload_n C dX0_warmOrCool_2 rfl 0 rfl ?_
  refine g_get (v := .int (ω b 5)) C iX0 (hb).1 (mk_4 (hb).2) rfl 5 (by decide) L26 rfl dX0_warmOrCool_3 ?_
  refine g_aload_n C dX0_warmOrCool_6 rfl 0 rfl ?_
  refine g_get (v := .int (bb (ω b 4))) C iX0 (hb).1 (mk_4 (hb).2) rfl 4 (by decide) L23 rfl dX0_warmOrCool_7 ?_
  refine g_if_eq (tgt := 24) C dX0_warmOrCool_10 (by decide) (fun h1 => ?_) (fun h1 => ?_)
  · refine g_iconst (v := 0) C dX0_warmOrCool_24 (by decide) ?_
    refine g_callV (rest := [.ref (ad b)]) (st1 := [.int (f_X0_temperatureAfter b (ω b 5) 0 ω), .ref (ad b)]) C (c_X0_temperatureAfter b (ω b 5) 0 hb ω) (cwV 2 C.hts gX0_warmOrCool_X0_temperatureAfter rfl rfl rfl md_X0_temperatureAfter ⟨Nat.le_of_ble_eq_true rfl, Nat.le_of_ble_eq_true rfl⟩) (hb).1 (mk_4 (hb).2) rfl rfl rfl rfl rfl (Nat.le_of_ble_eq_true rfl) dX0_warmOrCool_25 (Nat.zero_le _) (Nat.zero_le _) ?_
    refine g_put C iX0 tyX0 tyX0_ok nmX0 (hb).1 (mk_4 (hb).2) rfl 5 (by decide) L26 rfl rfl rfl (Nat.le_of_ble_eq_true rfl) dX0_warmOrCool_28 ?_
    refine gv_eqG (mkp_4_5 (hb).2) ?_
    exact g_vret C hret hlk e1 (e2.trans (congrArg (mk X ad) ((if_pos h1).trans rfl))) dX0_warmOrCool_31
  · refine g_aload_n C dX0_warmOrCool_13 rfl 0 rfl ?_
    refine g_aload_n C dX0_warmOrCool_14 rfl 0 rfl ?_
    refine g_get (v := .int (ω b 1)) C iX0 (hb).1 (mk_4 (hb).2) rfl 1 (by decide) L13 rfl dX0_warmOrCool_15 ?_
    refine g_callV (rest := [.int (ω b 5), .ref (ad b), .ref (ad b)]) (st1 := [.int (f_X0_heatAt b (ω b 1) ω), .int (ω b 5), .ref (ad b), .ref (ad b)]) C (c_X0_heatAt b (ω b 1) hb ω) (cwV 1 C.hts gX0_warmOrCool_X0_heatAt rfl rfl rfl md_X0_heatAt ⟨Nat.le_of_ble_eq_true rfl, Nat.le_of_ble_eq_true rfl⟩) (hb).1 (mk_4 (hb).2) rfl rfl rfl rfl rfl (Nat.le_of_ble_eq_true rfl) dX0_warmOrCool_18 (Nat.zero_le _) (Nat.zero_le _) ?_
    refine g_goto (tgt := 25) C dX0_warmOrCool_21 (by decide) ?_
    refine g_callV (rest := [.ref (ad b)]) (st1 := [.int (f_X0_temperatureAfter b (ω b 5) (f_X0_heatAt b (ω b 1) ω) ω), .ref (ad b)]) C (c_X0_temperatureAfter b (ω b 5) (f_X0_heatAt b (ω b 1) ω) hb ω) (cwV 2 C.hts gX0_warmOrCool_X0_temperatureAfter rfl rfl rfl md_X0_temperatureAfter ⟨Nat.le_of_ble_eq_true rfl, Nat.le_of_ble_eq_true rfl⟩) (hb).1 (mk_4 (hb).2) rfl rfl rfl rfl rfl (Nat.le_of_ble_eq_true rfl) dX0_warmOrCool_25 (Nat.zero_le _) (Nat.zero_le _) ?_
    refine g_put C iX0 tyX0 tyX0_ok nmX0 (hb).1 (mk_4 (hb).2) rfl 5 (by decide) L26 rfl rfl rfl (Nat.le_of_ble_eq_true rfl) dX0_warmOrCool_28 ?_
    refine gv_eqG (mkp_4_5 (hb).2) ?_
    exact g_vret C hret hlk e1 (e2.trans (congrArg (mk X ad) ((if_neg h1).trans rfl))) dX0_warmOrCool_31
abbrev rm_X0_copyFrom : Room := { frames := 0, cells := 0, slots := 0, locals := 0 }
theorem md_X0_copyFrom : yX0_copyFrom.cls = RX0 ∧ yX0_copyFrom.cls ≠ "java/lang/invoke/MethodHandle" ∧ yX0_copyFrom.cls ≠ "java/lang/invoke/VarHandle" ∧ (parseMethodDescriptor yX0_copyFrom.desc).map (fun d => d.parameters.length) = some 1 := by decide +kernel
def f_X0_copyFrom_64 (b : Nat) (k : Nat) (ω : Mem) : Mem := (st (st ω b 8 (ω k 8)) b 9 ((st ω b 8 (ω k 8)) k 9))
set_option maxRecDepth 100000 in
set_option maxHeartbeats 4000000 in
theorem k_X0_copyFrom_64 {l_ : Launch} {p_ : Program} {e_ : Env} {s_ : State} {m_ : MethodId} {args_ : Array Value} {below_ : List Frame} {meth_ : Method} {c_ : Code} {sa : Nat → Nat} {D : va_G} {X : Nat → ClassId} {ad : Nat → Nat} {G0 : Nat → va_E} (b : Nat) (k : Nat) (hb : isB b) (hk : isB k) (C : GC p_ rm_X0_copyFrom s_ m_ args_ meth_ c_ cX0_copyFrom 2 wsX0_copyFrom RX0 sa D (tyX X) (va_A (gw 120 ad G0) s_.heap.size)) (hret : meth_.sig.returnType = none) (hlk : meth_.locks = false) : ∀  (ω : Mem)  (rv : Option Value) (G2 : Nat → va_E) (e1 : rv = none) (e2 : G2 = mk X ad (f_X0_copyFrom_64 b k ω)), GV p_ l_ e_ rm_X0_copyFrom s_ m_ args_ below_ meth_ c_ 0 0 (CQ below_ args_ s_ D 120 ad G0 rv G2) D (va_A (gw 120 ad G0) s_.heap.size) 2 120 ad (mk X ad ω) [(0, .ref (ad b)), (1, .ref (ad k))] 64 [] := by
  have iX0 : ∀ w ∈ u_ws RX0 TX0 10, w ∈ wsX0_copyFrom := by decide +kernel
  have L35 : Cond.fieldLink RX0 35 (TX0 8).1 (TX0 8).2.1 (TX0 8).2.2.1 ∈ wsX0_copyFrom := by decide +kernel
  have L38 : Cond.fieldLink RX0 38 (TX0 9).1 (TX0 9).2.1 (TX0 9).2.2.1 ∈ wsX0_copyFrom := by decide +kernel
  intro ω rv G2 e1 e2
  refine g_aload_n C dX0_copyFrom_64 rfl 0 rfl ?_
  refine g_aload_n C dX0_copyFrom_65 rfl 1 rfl ?_
  refine g_get (v := .int (ω k 8)) C iX0 (hk).1 (mk_4 (hk).2) rfl 8 (by decide) L35 rfl dX0_copyFrom_66 ?_
  refine g_put C iX0 tyX0 tyX0_ok nmX0 (hb).1 (mk_4 (hb).2) rfl 8 (by decide) L35 rfl rfl rfl (Nat.le_of_ble_eq_true rfl) dX0_copyFrom_69 ?_
  refine gv_eqG (mkp_4_8 (hb).2) ?_
  refine g_aload_n C dX0_copyFrom_72 rfl 0 rfl ?_
  refine g_aload_n C dX0_copyFrom_73 rfl 1 rfl ?_
  refine g_get (v := .int ((st ω b 8 (ω k 8)) k 9)) C iX0 (hk).1 (mk_4 (hk).2) rfl 9 (by decide) L38 rfl dX0_copyFrom_74 ?_
  refine g_put C iX0 tyX0 tyX0_ok nmX0 (hb).1 (mk_4 (hb).2) rfl 9 (by decide) L38 rfl rfl rfl (Nat.le_of_ble_eq_true rfl) dX0_copyFrom_77 ?_
  refine gv_eqG (mkp_4_9 (hb).2) ?_
  exact g_vret C hret hlk e1 (e2.trans (congrArg (mk X ad) rfl)) dX0_copyFrom_80
def f_X0_copyFrom_48 (b : Nat) (k : Nat) (ω : Mem) : Mem := (f_X0_copyFrom_64 b k (st (st ω b 6 (bb (ω k 6))) b 7 ((st ω b 6 (bb (ω k 6))) k 7)))
set_option maxRecDepth 100000 in
set_option maxHeartbeats 4000000 in
theorem k_X0_copyFrom_48 {l_ : Launch} {p_ : Program} {e_ : Env} {s_ : State} {m_ : MethodId} {args_ : Array Value} {below_ : List Frame} {meth_ : Method} {c_ : Code} {sa : Nat → Nat} {D : va_G} {X : Nat → ClassId} {ad : Nat → Nat} {G0 : Nat → va_E} (b : Nat) (k : Nat) (hb : isB b) (hk : isB k) (C : GC p_ rm_X0_copyFrom s_ m_ args_ meth_ c_ cX0_copyFrom 2 wsX0_copyFrom RX0 sa D (tyX X) (va_A (gw 120 ad G0) s_.heap.size)) (hret : meth_.sig.returnType = none) (hlk : meth_.locks = false) : ∀  (ω : Mem)  (rv : Option Value) (G2 : Nat → va_E) (e1 : rv = none) (e2 : G2 = mk X ad (f_X0_copyFrom_48 b k ω)), GV p_ l_ e_ rm_X0_copyFrom s_ m_ args_ below_ meth_ c_ 0 0 (CQ below_ args_ s_ D 120 ad G0 rv G2) D (va_A (gw 120 ad G0) s_.heap.size) 2 120 ad (mk X ad ω) [(0, .ref (ad b)), (1, .ref (ad k))] 48 [] := by
  have iX0 : ∀ w ∈ u_ws RX0 TX0 10, w ∈ wsX0_copyFrom := by decide +kernel
  have L29 : Cond.fieldLink RX0 29 (TX0 6).1 (TX0 6).2.1 (TX0 6).2.2.1 ∈ wsX0_copyFrom := by decide +kernel
  have L32 : Cond.fieldLink RX0 32 (TX0 7).1 (TX0 7).2.1 (TX0 7).2.2.1 ∈ wsX0_copyFrom := by decide +kernel
  intro ω rv G2 e1 e2
  refine g_aload_n C dX0_copyFrom_48 rfl 0 rfl ?_
  refine g_aload_n C dX0_copyFrom_49 rfl 1 rfl ?_
  refine g_get (v := .int (bb (ω k 6))) C iX0 (hk).1 (mk_4 (hk).2) rfl 6 (by decide) L29 rfl dX0_copyFrom_50 ?_
  refine g_put C iX0 tyX0 tyX0_ok nmX0 (hb).1 (mk_4 (hb).2) rfl 6 (by decide) L29 rfl (nar_b (bb_bb _)).1 (nar_b (bb_bb _)).2 (Nat.le_of_ble_eq_true rfl) dX0_copyFrom_53 ?_
  refine gv_eqG (mkp_4_6 (hb).2 (bb_bb _)) ?_
  refine g_aload_n C dX0_copyFrom_56 rfl 0 rfl ?_
  refine g_aload_n C dX0_copyFrom_57 rfl 1 rfl ?_
  refine g_get (v := .int ((st ω b 6 (bb (ω k 6))) k 7)) C iX0 (hk).1 (mk_4 (hk).2) rfl 7 (by decide) L32 rfl dX0_copyFrom_58 ?_
  refine g_put C iX0 tyX0 tyX0_ok nmX0 (hb).1 (mk_4 (hb).2) rfl 7 (by decide) L32 rfl rfl rfl (Nat.le_of_ble_eq_true rfl) dX0_copyFrom_61 ?_
  refine gv_eqG (mkp_4_7 (hb).2) ?_
  exact k_X0_copyFrom_64 b k hb hk C hret hlk  (st (st ω b 6 (bb (ω k 6))) b 7 ((st ω b 6 (bb (ω k 6))) k 7))  _ _ e1 (e2.trans (congrArg (mk X ad) rfl))
def f_X0_copyFrom_32 (b : Nat) (k : Nat) (ω : Mem) : Mem := (f_X0_copyFrom_48 b k (st (st ω b 4 (bb (ω k 4))) b 5 ((st ω b 4 (bb (ω k 4))) k 5)))
set_option maxRecDepth 100000 in
set_option maxHeartbeats 4000000 in
theorem k_X0_copyFrom_32 {l_ : Launch} {p_ : Program} {e_ : Env} {s_ : State} {m_ : MethodId} {args_ : Array Value} {below_ : List Frame} {meth_ : Method} {c_ : Code} {sa : Nat → Nat} {D : va_G} {X : Nat → ClassId} {ad : Nat → Nat} {G0 : Nat → va_E} (b : Nat) (k : Nat) (hb : isB b) (hk : isB k) (C : GC p_ rm_X0_copyFrom s_ m_ args_ meth_ c_ cX0_copyFrom 2 wsX0_copyFrom RX0 sa D (tyX X) (va_A (gw 120 ad G0) s_.heap.size)) (hret : meth_.sig.returnType = none) (hlk : meth_.locks = false) : ∀  (ω : Mem)  (rv : Option Value) (G2 : Nat → va_E) (e1 : rv = none) (e2 : G2 = mk X ad (f_X0_copyFrom_32 b k ω)), GV p_ l_ e_ rm_X0_copyFrom s_ m_ args_ below_ meth_ c_ 0 0 (CQ below_ args_ s_ D 120 ad G0 rv G2) D (va_A (gw 120 ad G0) s_.heap.size) 2 120 ad (mk X ad ω) [(0, .ref (ad b)), (1, .ref (ad k))] 32 [] := by
  have iX0 : ∀ w ∈ u_ws RX0 TX0 10, w ∈ wsX0_copyFrom := by decide +kernel
  have L23 : Cond.fieldLink RX0 23 (TX0 4).1 (TX0 4).2.1 (TX0 4).2.2.1 ∈ wsX0_copyFrom := by decide +kernel
  have L26 : Cond.fieldLink RX0 26 (TX0 5).1 (TX0 5).2.1 (TX0 5).2.2.1 ∈ wsX0_copyFrom := by decide +kernel
  intro ω rv G2 e1 e2
  refine g_aload_n C dX0_copyFrom_32 rfl 0 rfl ?_
  refine g_aload_n C dX0_copyFrom_33 rfl 1 rfl ?_
  refine g_get (v := .int (bb (ω k 4))) C iX0 (hk).1 (mk_4 (hk).2) rfl 4 (by decide) L23 rfl dX0_copyFrom_34 ?_
  refine g_put C iX0 tyX0 tyX0_ok nmX0 (hb).1 (mk_4 (hb).2) rfl 4 (by decide) L23 rfl (nar_b (bb_bb _)).1 (nar_b (bb_bb _)).2 (Nat.le_of_ble_eq_true rfl) dX0_copyFrom_37 ?_
  refine gv_eqG (mkp_4_4 (hb).2 (bb_bb _)) ?_
  refine g_aload_n C dX0_copyFrom_40 rfl 0 rfl ?_
  refine g_aload_n C dX0_copyFrom_41 rfl 1 rfl ?_
  refine g_get (v := .int ((st ω b 4 (bb (ω k 4))) k 5)) C iX0 (hk).1 (mk_4 (hk).2) rfl 5 (by decide) L26 rfl dX0_copyFrom_42 ?_
  refine g_put C iX0 tyX0 tyX0_ok nmX0 (hb).1 (mk_4 (hb).2) rfl 5 (by decide) L26 rfl rfl rfl (Nat.le_of_ble_eq_true rfl) dX0_copyFrom_45 ?_
  refine gv_eqG (mkp_4_5 (hb).2) ?_
  exact k_X0_copyFrom_48 b k hb hk C hret hlk  (st (st ω b 4 (bb (ω k 4))) b 5 ((st ω b 4 (bb (ω k 4))) k 5))  _ _ e1 (e2.trans (congrArg (mk X ad) rfl))
def f_X0_copyFrom_16 (b : Nat) (k : Nat) (ω : Mem) : Mem := (f_X0_copyFrom_32 b k (st (st ω b 2 (bb (ω k 2))) b 3 (bb ((st ω b 2 (bb (ω k 2))) k 3))))
set_option maxRecDepth 100000 in
set_option maxHeartbeats 4000000 in
theorem k_X0_copyFrom_16 {l_ : Launch} {p_ : Program} {e_ : Env} {s_ : State} {m_ : MethodId} {args_ : Array Value} {below_ : List Frame} {meth_ : Method} {c_ : Code} {sa : Nat → Nat} {D : va_G} {X : Nat → ClassId} {ad : Nat → Nat} {G0 : Nat → va_E} (b : Nat) (k : Nat) (hb : isB b) (hk : isB k) (C : GC p_ rm_X0_copyFrom s_ m_ args_ meth_ c_ cX0_copyFrom 2 wsX0_copyFrom RX0 sa D (tyX X) (va_A (gw 120 ad G0) s_.heap.size)) (hret : meth_.sig.returnType = none) (hlk : meth_.locks = false) : ∀  (ω : Mem)  (rv : Option Value) (G2 : Nat → va_E) (e1 : rv = none) (e2 : G2 = mk X ad (f_X0_copyFrom_16 b k ω)), GV p_ l_ e_ rm_X0_copyFrom s_ m_ args_ below_ meth_ c_ 0 0 (CQ below_ args_ s_ D 120 ad G0 rv G2) D (va_A (gw 120 ad G0) s_.heap.size) 2 120 ad (mk X ad ω) [(0, .ref (ad b)), (1, .ref (ad k))] 16 [] := by
  have iX0 : ∀ w ∈ u_ws RX0 TX0 10, w ∈ wsX0_copyFrom := by decide +kernel
  have L16 : Cond.fieldLink RX0 16 (TX0 2).1 (TX0 2).2.1 (TX0 2).2.2.1 ∈ wsX0_copyFrom := by decide +kernel
  have L20 : Cond.fieldLink RX0 20 (TX0 3).1 (TX0 3).2.1 (TX0 3).2.2.1 ∈ wsX0_copyFrom := by decide +kernel
  intro ω rv G2 e1 e2
  refine g_aload_n C dX0_copyFrom_16 rfl 0 rfl ?_
  refine g_aload_n C dX0_copyFrom_17 rfl 1 rfl ?_
  refine g_get (v := .int (bb (ω k 2))) C iX0 (hk).1 (mk_4 (hk).2) rfl 2 (by decide) L16 rfl dX0_copyFrom_18 ?_
  refine g_put C iX0 tyX0 tyX0_ok nmX0 (hb).1 (mk_4 (hb).2) rfl 2 (by decide) L16 rfl (nar_b (bb_bb _)).1 (nar_b (bb_bb _)).2 (Nat.le_of_ble_eq_true rfl) dX0_copyFrom_21 ?_
  refine gv_eqG (mkp_4_2 (hb).2 (bb_bb _)) ?_
  refine g_aload_n C dX0_copyFrom_24 rfl 0 rfl ?_
  refine g_aload_n C dX0_copyFrom_25 rfl 1 rfl ?_
  refine g_get (v := .int (bb ((st ω b 2 (bb (ω k 2))) k 3))) C iX0 (hk).1 (mk_4 (hk).2) rfl 3 (by decide) L20 rfl dX0_copyFrom_26 ?_
  refine g_put C iX0 tyX0 tyX0_ok nmX0 (hb).1 (mk_4 (hb).2) rfl 3 (by decide) L20 rfl (nar_b (bb_bb _)).1 (nar_b (bb_bb _)).2 (Nat.le_of_ble_eq_true rfl) dX0_copyFrom_29 ?_
  refine gv_eqG (mkp_4_3 (hb).2 (bb_bb _)) ?_
  exact k_X0_copyFrom_32 b k hb hk C hret hlk  (st (st ω b 2 (bb (ω k 2))) b 3 (bb ((st ω b 2 (bb (ω k 2))) k 3)))  _ _ e1 (e2.trans (congrArg (mk X ad) rfl))
def f_X0_copyFrom (b : Nat) (k : Nat) (ω : Mem) : Mem := (f_X0_copyFrom_16 b k (st (st ω b 0 (ω k 0)) b 1 ((st ω b 0 (ω k 0)) k 1)))
set_option maxRecDepth 100000 in
set_option maxHeartbeats 4000000 in
theorem c_X0_copyFrom {l_ : Launch} {sa : Nat → Nat} {D : va_G} {X : Nat → ClassId} {ad : Nat → Nat} (b : Nat) (k : Nat) (hb : isB b) (hk : isB k) (ω : Mem)  : CT l_ yX0_copyFrom wsX0_copyFrom rm_X0_copyFrom sa D (tyX X) 120 ad (mk X ad ω) [.ref (ad b), .ref (ad k)] (none : Option Value) (mk X ad (f_X0_copyFrom b k ω)) := by
  refine ct_of [(0, .ref (ad b)), (1, .ref (ad k))] (by decide +kernel) rfl rfl (Nat.le_of_ble_eq_true rfl) rfl ?_
  intro p_ e_ s_ m_ args_ below_ meth_ c_ C hret hlk hin
  have e1 : (none : Option Value) = (none : Option Value) := rfl
  have e2 : mk X ad (f_X0_copyFrom b k ω) = mk X ad (f_X0_copyFrom b k ω) := rfl
  have iX0 : ∀ w ∈ u_ws RX0 TX0 10, w ∈ wsX0_copyFrom := by decide +kernel
  have L13 : Cond.fieldLink RX0 13 (TX0 1).1 (TX0 1).2.1 (TX0 1).2.2.1 ∈ wsX0_copyFrom := by decide +kernel
  have L7 : Cond.fieldLink RX0 7 (TX0 0).1 (TX0 0).2.1 (TX0 0).2.2.1 ∈ wsX0_copyFrom := by decide +kernel
  refine g_aload_n C dX0_copyFrom_0 rfl 0 rfl ?_
  refine g_aload_n C dX0_copyFrom_1 rfl 1 rfl ?_
  refine g_get (v := .int (ω k 0)) C iX0 (hk).1 (mk_4 (hk).2) rfl 0 (by decide) L7 rfl dX0_copyFrom_2 ?_
  refine g_put C iX0 tyX0 tyX0_ok nmX0 (hb).1 (mk_4 (hb).2) rfl 0 (by decide) L7 rfl rfl rfl (Nat.le_of_ble_eq_true rfl) dX0_copyFrom_5 ?_
  refine gv_eqG (mkp_4_0 (hb).2) ?_
  refine g_aload_n C dX0_copyFrom_8 rfl 0 rfl ?_
  refine g_aload_n C dX0_copyFrom_9 rfl 1 rfl ?_
  refine g_get (v := .int ((st ω b 0 (ω k 0)) k 1)) C iX0 (hk).1 (mk_4 (hk).2) rfl 1 (by decide) L13 rfl dX0_copyFrom_10 ?_
  refine g_put C iX0 tyX0 tyX0_ok nmX0 (hb).1 (mk_4 (hb).2) rfl 1 (by decide) L13 rfl rfl rfl (Nat.le_of_ble_eq_true rfl) dX0_copyFrom_13 ?_
  refine gv_eqG (mkp_4_1 (hb).2) ?_
  exact k_X0_copyFrom_16 b k hb hk C hret hlk  (st (st ω b 0 (ω k 0)) b 1 ((st ω b 0 (ω k 0)) k 1))  _ _ e1 (e2.trans (congrArg (mk X ad) rfl))
abbrev rm_X2_putFirst : Room := { frames := 1, cells := 0, slots := 0, locals := 18 }
theorem md_X2_putFirst : yX2_putFirst.cls = RX2 ∧ yX2_putFirst.cls ≠ "java/lang/invoke/MethodHandle" ∧ yX2_putFirst.cls ≠ "java/lang/invoke/VarHandle" ∧ (parseMethodDescriptor yX2_putFirst.desc).map (fun d => d.parameters.length) = some 2 := by decide +kernel
def f_X2_putFirst (n : Nat) (r : Nat) (v : Int32) (ω : Mem) : Mem := (if n ≤ 0 then ω else (st (va_up ω r (va_cpy (ω r) (ω r) 0 1 (n - 1))) r 0 v))
set_option maxRecDepth 100000 in
set_option maxHeartbeats 4000000 in
theorem c_X2_putFirst {l_ : Launch} {sa : Nat → Nat} {D : va_G} {X : Nat → ClassId} {ad : Nat → Nat} (n : Nat) (r : Nat) (v : Int32) (hr : isR r n) (hn : n < 2 ^ 31) (h0 : 0 < n) (ω : Mem)  : CT l_ yX2_putFirst wsX2_putFirst rm_X2_putFirst sa D (tyX X) 120 ad (mk X ad ω) [.ref (ad r), .int v] (none : Option Value) (mk X ad (f_X2_putFirst n r v ω)) := by
  refine ct_of [(0, .ref (ad r)), (1, .int v)] (by decide +kernel) rfl rfl (Nat.le_of_ble_eq_true rfl) rfl ?_
  intro p_ e_ s_ m_ args_ below_ meth_ c_ C hret hlk hin
  have e1 : (none : Option Value) = (none : Option Value) := rfl
  have e2 : mk X ad (f_X2_putFirst n r v ω) = mk X ad (f_X2_putFirst n r v ω) := rfl
  have A46 : Cond.methodLink RX2 46 arraycopyName ∈ wsX2_putFirst := by decide +kernel
  have Aini : Cond.initialized "java/lang/System" ∈ wsX2_putFirst := by decide +kernel
  have Anat : Cond.native arraycopyName ∈ wsX2_putFirst := by decide +kernel
  have Asta : Cond.static arraycopyName ∈ wsX2_putFirst := by decide +kernel
  refine g_aload_n C dX2_putFirst_0 rfl 0 rfl ?_
  refine g_alen (v := (nI (n))) C 0 (hr).1 (mk_12n (N := n) (hr).2.1 (hr).2.2) rfl rfl dX2_putFirst_1 ?_
  refine g_if_le (tgt := 20) C dX2_putFirst_2 (by decide) (fun h1 => ?_) (fun h1 => ?_)
  · have h1n := (nI_leI (a := n) (b := 0) (by omega) (by omega)).mp h1
    exact g_vret C hret hlk e1 (e2.trans (congrArg (mk X ad) ((if_pos h1n).trans rfl))) dX2_putFirst_20
  · have h1n := (not_congr (nI_leI (a := n) (b := 0) (by omega) (by omega))).mp h1
    refine g_aload_n C dX2_putFirst_5 rfl 0 rfl ?_
    refine g_iconst (v := 0) C dX2_putFirst_6 (by decide) ?_
    refine g_aload_n C dX2_putFirst_7 rfl 0 rfl ?_
    refine g_iconst (v := 1) C dX2_putFirst_8 (by decide) ?_
    refine g_aload_n C dX2_putFirst_9 rfl 0 rfl ?_
    refine g_alen (v := (nI (n))) C 0 (hr).1 (mk_12n (N := n) (hr).2.1 (hr).2.2) rfl rfl dX2_putFirst_10 ?_
    refine g_iconst (v := 1) C dX2_putFirst_11 (by decide) ?_
    refine g_isub (v := (nI (n - 1))) C dX2_putFirst_12 (pk_sub (a := n) (b := 1) (by omega)) ?_
    refine g_copy (zs := 0) (zd := 1) (zz := n - 1) C 0 A46 Anat Asta Aini (hr).1 (mk_12n (N := n) (hr).2.1 (hr).2.2) (hr).1 (mk_12n (N := n) (hr).2.1 (hr).2.2) rfl rfl (by decide) (by decide) (nI_pos (n := n - 1) (by omega)) (by decide) (by decide) (nI_clamp (n := n - 1) (by omega)) (by omega) (by omega) (Nat.le_of_ble_eq_true rfl) (Nat.le_of_ble_eq_true rfl) dX2_putFirst_13 ?_
    refine gv_eqG (mk_row (N := n) (hr).2.1 (hr).2.2) ?_
    refine g_aload_n C dX2_putFirst_16 rfl 0 rfl ?_
    refine g_iconst (v := 0) C dX2_putFirst_17 (by decide) ?_
    refine g_iload_n C dX2_putFirst_18 rfl 1 rfl ?_
    refine g_iast (k := 0) C 0 (hr).1 (mk_12n (N := n) (hr).2.1 (hr).2.2) rfl (vp_in_nI (n := 0) (N := n) (by omega) (by omega)) rfl dX2_putFirst_19 ?_
    refine gv_eqG (mk_row (N := n) (hr).2.1 (hr).2.2) ?_
    exact g_vret C hret hlk e1 (e2.trans (congrArg (mk X ad) ((if_neg h1n).trans rfl))) dX2_putFirst_20
abbrev rm_X2_note : Room := { frames := 2, cells := 0, slots := 0, locals := 39 }
theorem md_X2_note : yX2_note.cls = RX2 ∧ yX2_note.cls ≠ "java/lang/invoke/MethodHandle" ∧ yX2_note.cls ≠ "java/lang/invoke/VarHandle" ∧ (parseMethodDescriptor yX2_note.desc).map (fun d => d.parameters.length) = some 3 := by decide +kernel
def f_X2_note (i : Nat) (ev : Nat) (bu : Int32) (ti : Int32) (ω : Mem) : Mem := (if (f_X7_isWithin (nI (ev)) 0 3 (st (f_X2_putFirst 10 (i + 3) ti (f_X2_putFirst 10 (i + 2) bu (f_X2_putFirst 10 (i + 1) (nI (ev)) ω))) i 4 (if 10 < (((f_X2_putFirst 10 (i + 3) ti (f_X2_putFirst 10 (i + 2) bu (f_X2_putFirst 10 (i + 1) (nI (ev)) ω))) i 4) + 1) then 10 else (((f_X2_putFirst 10 (i + 3) ti (f_X2_putFirst 10 (i + 2) bu (f_X2_putFirst 10 (i + 1) (nI (ev)) ω))) i 4) + 1)))) = 0 then (st (f_X2_putFirst 10 (i + 3) ti (f_X2_putFirst 10 (i + 2) bu (f_X2_putFirst 10 (i + 1) (nI (ev)) ω))) i 4 (if 10 < (((f_X2_putFirst 10 (i + 3) ti (f_X2_putFirst 10 (i + 2) bu (f_X2_putFirst 10 (i + 1) (nI (ev)) ω))) i 4) + 1) then 10 else (((f_X2_putFirst 10 (i + 3) ti (f_X2_putFirst 10 (i + 2) bu (f_X2_putFirst 10 (i + 1) (nI (ev)) ω))) i 4) + 1))) else (st (st (f_X2_putFirst 10 (i + 3) ti (f_X2_putFirst 10 (i + 2) bu (f_X2_putFirst 10 (i + 1) (nI (ev)) ω))) i 4 (if 10 < (((f_X2_putFirst 10 (i + 3) ti (f_X2_putFirst 10 (i + 2) bu (f_X2_putFirst 10 (i + 1) (nI (ev)) ω))) i 4) + 1) then 10 else (((f_X2_putFirst 10 (i + 3) ti (f_X2_putFirst 10 (i + 2) bu (f_X2_putFirst 10 (i + 1) (nI (ev)) ω))) i 4) + 1))) (i + 4) ev (((st (f_X2_putFirst 10 (i + 3) ti (f_X2_putFirst 10 (i + 2) bu (f_X2_putFirst 10 (i + 1) (nI (ev)) ω))) i 4 (if 10 < (((f_X2_putFirst 10 (i + 3) ti (f_X2_putFirst 10 (i + 2) bu (f_X2_putFirst 10 (i + 1) (nI (ev)) ω))) i 4) + 1) then 10 else (((f_X2_putFirst 10 (i + 3) ti (f_X2_putFirst 10 (i + 2) bu (f_X2_putFirst 10 (i + 1) (nI (ev)) ω))) i 4) + 1))) (i + 4) ev) + 1)))
set_option maxRecDepth 100000 in
set_option maxHeartbeats 4000000 in
theorem c_X2_note {l_ : Launch} {sa : Nat → Nat} {D : va_G} {X : Nat → ClassId} {ad : Nat → Nat} (i : Nat) (ev : Nat) (bu : Int32) (ti : Int32) (hi : isLg i) (hev : ev < 4) (ω : Mem)  : CT l_ yX2_note wsX2_note rm_X2_note sa D (tyX X) 120 ad (mk X ad ω) [.ref (ad i), .int (nI (ev)), .int bu, .int ti] (none : Option Value) (mk X ad (f_X2_note i ev bu ti ω)) := by
  refine ct_of [(0, .ref (ad i)), (1, .int (nI (ev))), (2, .int bu), (3, .int ti)] (by decide +kernel) rfl rfl (Nat.le_of_ble_eq_true rfl) rfl ?_
  intro p_ e_ s_ m_ args_ below_ meth_ c_ C hret hlk hin
  have e1 : (none : Option Value) = (none : Option Value) := rfl
  have e2 : mk X ad (f_X2_note i ev bu ti ω) = mk X ad (f_X2_note i ev bu ti ω) := rfl
  have iX2 : ∀ w ∈ u_ws RX2 TX2 5, w ∈ wsX2_note := by decide +kernel
  have IX7 : Cond.initialized RX7 ∈ wsX2_note := by decide +kernel
  have L13 : Cond.fieldLink RX2 13 (TX2 1).1 (TX2 1).2.1 (TX2 1).2.2.1 ∈ wsX2_note := by decide +kernel
  have L16 : Cond.fieldLink RX2 16 (TX2 2).1 (TX2 2).2.1 (TX2 2).2.2.1 ∈ wsX2_note := by decide +kernel
  have L19 : Cond.fieldLink RX2 19 (TX2 3).1 (TX2 3).2.1 (TX2 3).2.2.1 ∈ wsX2_note := by decide +kernel
  have L22 : Cond.fieldLink RX2 22 (TX2 4).1 (TX2 4).2.1 (TX2 4).2.2.1 ∈ wsX2_note := by decide +kernel
  have L9 : Cond.fieldLink RX2 9 (TX2 0).1 (TX2 0).2.1 (TX2 0).2.2.1 ∈ wsX2_note := by decide +kernel
  have M36a : Cond.methodLink RX2 36 Lib.Math.min.name ∈ wsX2_note := by decide +kernel
  have Mini : Cond.initialized "java/lang/Math" ∈ wsX2_note := by decide +kernel
  have Mminb : Cond.static Lib.Math.min.name ∈ wsX2_note := by decide +kernel
  have Mminc : Cond.code Lib.Math.min.name Lib.Math.min.code 2 (some .int) ∈ wsX2_note := by decide +kernel
  have TX7_isWithin : Cond.static yX7_isWithin ∈ wsX2_note := by decide +kernel
  refine g_aload_n C dX2_note_0 rfl 0 rfl ?_
  refine g_get (v := .ref (ad (i + 1))) C iX2 (hi).1 (mk_6 (hi).2.1) rfl 0 (by decide) L9 rfl dX2_note_1 ?_
  refine g_iload_n C dX2_note_4 rfl 1 rfl ?_
  refine g_callS (rest := []) (st1 := []) C (c_X2_putFirst 10 (i + 1) (nI (ev)) hi.2.2.1 (by omega) (by omega) ω) (va_cwS 2 C.hts gX2_note_X2_putFirst rfl rfl rfl md_X2_putFirst.2 ⟨Nat.le_of_ble_eq_true rfl, Nat.le_of_ble_eq_true rfl⟩) rfl rfl rfl (Nat.le_of_ble_eq_true rfl) dX2_note_5 (Nat.zero_le _) (Nat.zero_le _) ?_
  refine g_aload_n C dX2_note_8 rfl 0 rfl ?_
  refine g_get (v := .ref (ad (i + 2))) C iX2 (hi).1 (mk_6 (hi).2.1) rfl 1 (by decide) L13 rfl dX2_note_9 ?_
  refine g_iload_n C dX2_note_12 rfl 2 rfl ?_
  refine g_callS (rest := []) (st1 := []) C (c_X2_putFirst 10 (i + 2) bu hi.2.2.2.1 (by omega) (by omega) (f_X2_putFirst 10 (i + 1) (nI (ev)) ω)) (va_cwS 2 C.hts gX2_note_X2_putFirst rfl rfl rfl md_X2_putFirst.2 ⟨Nat.le_of_ble_eq_true rfl, Nat.le_of_ble_eq_true rfl⟩) rfl rfl rfl (Nat.le_of_ble_eq_true rfl) dX2_note_13 (Nat.zero_le _) (Nat.zero_le _) ?_
  refine g_aload_n C dX2_note_16 rfl 0 rfl ?_
  refine g_get (v := .ref (ad (i + 3))) C iX2 (hi).1 (mk_6 (hi).2.1) rfl 2 (by decide) L16 rfl dX2_note_17 ?_
  refine g_iload_n C dX2_note_20 rfl 3 rfl ?_
  refine g_callS (rest := []) (st1 := []) C (c_X2_putFirst 10 (i + 3) ti hi.2.2.2.2.1 (by omega) (by omega) (f_X2_putFirst 10 (i + 2) bu (f_X2_putFirst 10 (i + 1) (nI (ev)) ω))) (va_cwS 2 C.hts gX2_note_X2_putFirst rfl rfl rfl md_X2_putFirst.2 ⟨Nat.le_of_ble_eq_true rfl, Nat.le_of_ble_eq_true rfl⟩) rfl rfl rfl (Nat.le_of_ble_eq_true rfl) dX2_note_21 (Nat.zero_le _) (Nat.zero_le _) ?_
  refine g_aload_n C dX2_note_24 rfl 0 rfl ?_
  refine g_aload_n C dX2_note_25 rfl 0 rfl ?_
  refine g_get (v := .int ((f_X2_putFirst 10 (i + 3) ti (f_X2_putFirst 10 (i + 2) bu (f_X2_putFirst 10 (i + 1) (nI (ev)) ω))) i 4)) C iX2 (hi).1 (mk_6 (hi).2.1) rfl 4 (by decide) L22 rfl dX2_note_26 ?_
  refine g_iconst (v := 1) C dX2_note_29 (by decide) ?_
  refine g_iadd (v := (((f_X2_putFirst 10 (i + 3) ti (f_X2_putFirst 10 (i + 2) bu (f_X2_putFirst 10 (i + 1) (nI (ev)) ω))) i 4) + 1)) C dX2_note_30 rfl ?_
  refine g_bipush (v := 10) C dX2_note_31 (by decide) ?_
  refine g_mmin (v := (if 10 < (((f_X2_putFirst 10 (i + 3) ti (f_X2_putFirst 10 (i + 2) bu (f_X2_putFirst 10 (i + 1) (nI (ev)) ω))) i 4) + 1) then 10 else (((f_X2_putFirst 10 (i + 3) ti (f_X2_putFirst 10 (i + 2) bu (f_X2_putFirst 10 (i + 1) (nI (ev)) ω))) i 4) + 1))) C M36a Mminb Mini Mminc (Nat.le_of_ble_eq_true rfl) (Nat.le_of_ble_eq_true rfl) (Nat.zero_le _) (Nat.zero_le _) dX2_note_33 rfl ?_
  refine g_put C iX2 tyX2 tyX2_ok nmX2 (hi).1 (mk_6 (hi).2.1) rfl 4 (by decide) L22 rfl rfl rfl (Nat.le_of_ble_eq_true rfl) dX2_note_36 ?_
  refine gv_eqG (mkp_6_4 (hi).2.1) ?_
  refine g_iload_n C dX2_note_39 rfl 1 rfl ?_
  refine g_iconst (v := 0) C dX2_note_40 (by decide) ?_
  refine g_iconst (v := 3) C dX2_note_41 (by decide) ?_
  refine g_callSN (rest := []) (st1 := [.int (f_X7_isWithin (nI (ev)) 0 3 (st (f_X2_putFirst 10 (i + 3) ti (f_X2_putFirst 10 (i + 2) bu (f_X2_putFirst 10 (i + 1) (nI (ev)) ω))) i 4 (if 10 < (((f_X2_putFirst 10 (i + 3) ti (f_X2_putFirst 10 (i + 2) bu (f_X2_putFirst 10 (i + 1) (nI (ev)) ω))) i 4) + 1) then 10 else (((f_X2_putFirst 10 (i + 3) ti (f_X2_putFirst 10 (i + 2) bu (f_X2_putFirst 10 (i + 1) (nI (ev)) ω))) i 4) + 1))))]) C (c_X7_isWithin (nI (ev)) 0 3 (st (f_X2_putFirst 10 (i + 3) ti (f_X2_putFirst 10 (i + 2) bu (f_X2_putFirst 10 (i + 1) (nI (ev)) ω))) i 4 (if 10 < (((f_X2_putFirst 10 (i + 3) ti (f_X2_putFirst 10 (i + 2) bu (f_X2_putFirst 10 (i + 1) (nI (ev)) ω))) i 4) + 1) then 10 else (((f_X2_putFirst 10 (i + 3) ti (f_X2_putFirst 10 (i + 2) bu (f_X2_putFirst 10 (i + 1) (nI (ev)) ω))) i 4) + 1)))) (va_cnB 3 C.hts gX2_note_X7_isWithin_n42 rfl rfl rfl (nw2 C.hN) (C.hts _ IX7) md_X7_isWithin.2 ⟨Nat.le_of_ble_eq_true rfl, Nat.le_of_ble_eq_true rfl⟩) TX7_isWithin rfl rfl rfl (Nat.le_of_ble_eq_true rfl) dX2_note_42 (Nat.zero_le _) (Nat.zero_le _) ?_
  refine g_if_eq (tgt := 58) C dX2_note_45 (by decide) (fun h1 => ?_) (fun h1 => ?_)
  · exact g_vret C hret hlk e1 (e2.trans (congrArg (mk X ad) ((if_pos h1).trans rfl))) dX2_note_58
  · refine g_aload_n C dX2_note_48 rfl 0 rfl ?_
    refine g_get (v := .ref (ad (i + 4))) C iX2 (hi).1 (mk_6 (hi).2.1) rfl 3 (by decide) L19 rfl dX2_note_49 ?_
    refine g_iload_n C dX2_note_52 rfl 1 rfl ?_
    refine g_dup2 C dX2_note_53 rfl rfl ?_
    refine g_iald (k := ev) C 0 (hi.2.2.2.2.2).1 (mk_12n (N := 4) (hi.2.2.2.2.2).2.1 (hi.2.2.2.2.2).2.2) rfl (vp_in_nI (n := ev) (by omega) (by decide)) (nI_clamp (n := ev) (by omega)) dX2_note_54 ?_
    refine g_iconst (v := 1) C dX2_note_55 (by decide) ?_
    refine g_iadd (v := (((st (f_X2_putFirst 10 (i + 3) ti (f_X2_putFirst 10 (i + 2) bu (f_X2_putFirst 10 (i + 1) (nI (ev)) ω))) i 4 (if 10 < (((f_X2_putFirst 10 (i + 3) ti (f_X2_putFirst 10 (i + 2) bu (f_X2_putFirst 10 (i + 1) (nI (ev)) ω))) i 4) + 1) then 10 else (((f_X2_putFirst 10 (i + 3) ti (f_X2_putFirst 10 (i + 2) bu (f_X2_putFirst 10 (i + 1) (nI (ev)) ω))) i 4) + 1))) (i + 4) ev) + 1)) C dX2_note_56 rfl ?_
    refine g_iast (k := ev) C 0 (hi.2.2.2.2.2).1 (mk_12n (N := 4) (hi.2.2.2.2.2).2.1 (hi.2.2.2.2.2).2.2) rfl (vp_in_nI (n := ev) (by omega) (by decide)) (nI_clamp (n := ev) (by omega)) dX2_note_57 ?_
    refine gv_eqG (mk_row (N := 4) (hi.2.2.2.2.2).2.1 (hi.2.2.2.2.2).2.2) ?_
    exact g_vret C hret hlk e1 (e2.trans (congrArg (mk X ad) ((if_neg h1).trans rfl))) dX2_note_58
abbrev rm_X2_total : Room := { frames := 0, cells := 0, slots := 0, locals := 0 }
theorem md_X2_total : yX2_total.cls = RX2 ∧ yX2_total.cls ≠ "java/lang/invoke/MethodHandle" ∧ yX2_total.cls ≠ "java/lang/invoke/VarHandle" ∧ (parseMethodDescriptor yX2_total.desc).map (fun d => d.parameters.length) = some 0 := by decide +kernel
def f_X2_total (i : Nat) (ω : Mem) : Int32 := ((((0 + (ω (i + 4) 0)) + (ω (i + 4) 1)) + (ω (i + 4) 2)) + (ω (i + 4) 3))
set_option maxRecDepth 100000 in
set_option maxHeartbeats 4000000 in
theorem c_X2_total {l_ : Launch} {sa : Nat → Nat} {D : va_G} {X : Nat → ClassId} {ad : Nat → Nat} (i : Nat) (hi : isLg i) (ω : Mem)  : CT l_ yX2_total wsX2_total rm_X2_total sa D (tyX X) 120 ad (mk X ad ω) [.ref (ad i)] (some (.int (f_X2_total i ω)) : Option Value) (mk X ad ω) := by
  refine ct_of [(0, .ref (ad i))] (by decide +kernel) rfl rfl (Nat.le_of_ble_eq_true rfl) rfl ?_
  intro p_ e_ s_ m_ args_ below_ meth_ c_ C hret hlk hin
  have e1 : (some (.int (f_X2_total i ω)) : Option Value) = (some (.int (f_X2_total i ω)) : Option Value) := rfl
  have e2 : mk X ad ω = mk X ad ω := rfl
  have iX2 : ∀ w ∈ u_ws RX2 TX2 5, w ∈ wsX2_total := by decide +kernel
  have L19 : Cond.fieldLink RX2 19 (TX2 3).1 (TX2 3).2.1 (TX2 3).2.2.1 ∈ wsX2_total := by decide +kernel
  refine g_iconst (v := 0) C dX2_total_0 (by decide) ?_
  refine g_istore_n (lv' := [(1, .int 0), (0, .ref (ad i))]) C dX2_total_1 rfl (by decide) rfl ?_
  refine g_aload_n C dX2_total_2 rfl 1 rfl ?_
  refine g_get (v := .ref (ad (i + 4))) C iX2 (hi).1 (mk_6 (hi).2.1) rfl 3 (by decide) L19 rfl dX2_total_3 ?_
  refine g_astore_n (lv' := [(2, .ref (ad (i + 4))), (1, .int 0), (0, .ref (ad i))]) C dX2_total_6 rfl (by decide) rfl ?_
  refine g_aload_n C dX2_total_7 rfl 0 rfl ?_
  refine g_alen (v := 4) C 0 (hi.2.2.2.2.2).1 (mk_12n (N := 4) (hi.2.2.2.2.2).2.1 (hi.2.2.2.2.2).2.2) rfl rfl dX2_total_8 ?_
  refine g_istore_n (lv' := [(3, .int 4), (2, .ref (ad (i + 4))), (1, .int 0), (0, .ref (ad i))]) C dX2_total_9 rfl (by decide) rfl ?_
  refine g_iconst (v := 0) C dX2_total_10 (by decide) ?_
  refine g_istore (lv' := [(4, .int 0), (3, .int 4), (2, .ref (ad (i + 4))), (1, .int 0), (0, .ref (ad i))]) C dX2_total_11 (by decide) rfl ?_
  refine g_iload C dX2_total_13 0 rfl ?_
  refine g_iload_n C dX2_total_15 rfl 1 rfl ?_
  refine g_icmp_ge (tgt := 36) C dX2_total_16 (by decide) (fun z => absurd z (by decide)) (fun _ => ?_)
  refine g_aload_n C dX2_total_19 rfl 2 rfl ?_
  refine g_iload C dX2_total_20 0 rfl ?_
  refine g_iald (k := 0) C 0 (hi.2.2.2.2.2).1 (mk_12n (N := 4) (hi.2.2.2.2.2).2.1 (hi.2.2.2.2.2).2.2) rfl (by unfold vp_in; decide) rfl dX2_total_22 ?_
  refine g_istore (lv' := [(5, .int (ω (i + 4) 0)), (4, .int 0), (3, .int 4), (2, .ref (ad (i + 4))), (1, .int 0), (0, .ref (ad i))]) C dX2_total_23 (by decide) rfl ?_
  refine g_iload_n C dX2_total_25 rfl 4 rfl ?_
  refine g_iload C dX2_total_26 0 rfl ?_
  refine g_iadd (v := (0 + (ω (i + 4) 0))) C dX2_total_28 rfl ?_
  refine g_istore_n (lv' := [(1, .int (0 + (ω (i + 4) 0))), (5, .int (ω (i + 4) 0)), (4, .int 0), (3, .int 4), (2, .ref (ad (i + 4))), (0, .ref (ad i))]) C dX2_total_29 rfl (by decide) rfl ?_
  refine g_iinc (k := 2) (v := 1) (lv' := [(4, .int 1), (1, .int (0 + (ω (i + 4) 0))), (5, .int (ω (i + 4) 0)), (3, .int 4), (2, .ref (ad (i + 4))), (0, .ref (ad i))]) C dX2_total_30 rfl (by decide) (by decide) rfl ?_
  refine g_goto (tgt := 13) C dX2_total_33 (by decide) ?_
  refine g_iload C dX2_total_13 0 rfl ?_
  refine g_iload_n C dX2_total_15 rfl 3 rfl ?_
  refine g_icmp_ge (tgt := 36) C dX2_total_16 (by decide) (fun z => absurd z (by decide)) (fun _ => ?_)
  refine g_aload_n C dX2_total_19 rfl 4 rfl ?_
  refine g_iload C dX2_total_20 0 rfl ?_
  refine g_iald (k := 1) C 0 (hi.2.2.2.2.2).1 (mk_12n (N := 4) (hi.2.2.2.2.2).2.1 (hi.2.2.2.2.2).2.2) rfl (by unfold vp_in; decide) rfl dX2_total_22 ?_
  refine g_istore (lv' := [(5, .int (ω (i + 4) 1)), (4, .int 1), (1, .int (0 + (ω (i + 4) 0))), (3, .int 4), (2, .ref (ad (i + 4))), (0, .ref (ad i))]) C dX2_total_23 (by decide) rfl ?_
  refine g_iload_n C dX2_total_25 rfl 2 rfl ?_
  refine g_iload C dX2_total_26 0 rfl ?_
  refine g_iadd (v := ((0 + (ω (i + 4) 0)) + (ω (i + 4) 1))) C dX2_total_28 rfl ?_
  refine g_istore_n (lv' := [(1, .int ((0 + (ω (i + 4) 0)) + (ω (i + 4) 1))), (5, .int (ω (i + 4) 1)), (4, .int 1), (3, .int 4), (2, .ref (ad (i + 4))), (0, .ref (ad i))]) C dX2_total_29 rfl (by decide) rfl ?_
  refine g_iinc (k := 2) (v := 2) (lv' := [(4, .int 2), (1, .int ((0 + (ω (i + 4) 0)) + (ω (i + 4) 1))), (5, .int (ω (i + 4) 1)), (3, .int 4), (2, .ref (ad (i + 4))), (0, .ref (ad i))]) C dX2_total_30 rfl (by decide) (by decide) rfl ?_
  refine g_goto (tgt := 13) C dX2_total_33 (by decide) ?_
  refine g_iload C dX2_total_13 0 rfl ?_
  refine g_iload_n C dX2_total_15 rfl 3 rfl ?_
  refine g_icmp_ge (tgt := 36) C dX2_total_16 (by decide) (fun z => absurd z (by decide)) (fun _ => ?_)
  refine g_aload_n C dX2_total_19 rfl 4 rfl ?_
  refine g_iload C dX2_total_20 0 rfl ?_
  refine g_iald (k := 2) C 0 (hi.2.2.2.2.2).1 (mk_12n (N := 4) (hi.2.2.2.2.2).2.1 (hi.2.2.2.2.2).2.2) rfl (by unfold vp_in; decide) rfl dX2_total_22 ?_
  refine g_istore (lv' := [(5, .int (ω (i + 4) 2)), (4, .int 2), (1, .int ((0 + (ω (i + 4) 0)) + (ω (i + 4) 1))), (3, .int 4), (2, .ref (ad (i + 4))), (0, .ref (ad i))]) C dX2_total_23 (by decide) rfl ?_
  refine g_iload_n C dX2_total_25 rfl 2 rfl ?_
  refine g_iload C dX2_total_26 0 rfl ?_
  refine g_iadd (v := (((0 + (ω (i + 4) 0)) + (ω (i + 4) 1)) + (ω (i + 4) 2))) C dX2_total_28 rfl ?_
  refine g_istore_n (lv' := [(1, .int (((0 + (ω (i + 4) 0)) + (ω (i + 4) 1)) + (ω (i + 4) 2))), (5, .int (ω (i + 4) 2)), (4, .int 2), (3, .int 4), (2, .ref (ad (i + 4))), (0, .ref (ad i))]) C dX2_total_29 rfl (by decide) rfl ?_
  refine g_iinc (k := 2) (v := 3) (lv' := [(4, .int 3), (1, .int (((0 + (ω (i + 4) 0)) + (ω (i + 4) 1)) + (ω (i + 4) 2))), (5, .int (ω (i + 4) 2)), (3, .int 4), (2, .ref (ad (i + 4))), (0, .ref (ad i))]) C dX2_total_30 rfl (by decide) (by decide) rfl ?_
  refine g_goto (tgt := 13) C dX2_total_33 (by decide) ?_
  refine g_iload C dX2_total_13 0 rfl ?_
  refine g_iload_n C dX2_total_15 rfl 3 rfl ?_
  refine g_icmp_ge (tgt := 36) C dX2_total_16 (by decide) (fun z => absurd z (by decide)) (fun _ => ?_)
  refine g_aload_n C dX2_total_19 rfl 4 rfl ?_
  refine g_iload C dX2_total_20 0 rfl ?_
  refine g_iald (k := 3) C 0 (hi.2.2.2.2.2).1 (mk_12n (N := 4) (hi.2.2.2.2.2).2.1 (hi.2.2.2.2.2).2.2) rfl (by unfold vp_in; decide) rfl dX2_total_22 ?_
  refine g_istore (lv' := [(5, .int (ω (i + 4) 3)), (4, .int 3), (1, .int (((0 + (ω (i + 4) 0)) + (ω (i + 4) 1)) + (ω (i + 4) 2))), (3, .int 4), (2, .ref (ad (i + 4))), (0, .ref (ad i))]) C dX2_total_23 (by decide) rfl ?_
  refine g_iload_n C dX2_total_25 rfl 2 rfl ?_
  refine g_iload C dX2_total_26 0 rfl ?_
  refine g_iadd (v := ((((0 + (ω (i + 4) 0)) + (ω (i + 4) 1)) + (ω (i + 4) 2)) + (ω (i + 4) 3))) C dX2_total_28 rfl ?_
  refine g_istore_n (lv' := [(1, .int ((((0 + (ω (i + 4) 0)) + (ω (i + 4) 1)) + (ω (i + 4) 2)) + (ω (i + 4) 3))), (5, .int (ω (i + 4) 3)), (4, .int 3), (3, .int 4), (2, .ref (ad (i + 4))), (0, .ref (ad i))]) C dX2_total_29 rfl (by decide) rfl ?_
  refine g_iinc (k := 2) (v := 4) (lv' := [(4, .int 4), (1, .int ((((0 + (ω (i + 4) 0)) + (ω (i + 4) 1)) + (ω (i + 4) 2)) + (ω (i + 4) 3))), (5, .int (ω (i + 4) 3)), (3, .int 4), (2, .ref (ad (i + 4))), (0, .ref (ad i))]) C dX2_total_30 rfl (by decide) (by decide) rfl ?_
  refine g_goto (tgt := 13) C dX2_total_33 (by decide) ?_
  refine g_iload C dX2_total_13 0 rfl ?_
  refine g_iload_n C dX2_total_15 rfl 3 rfl ?_
  refine g_icmp_ge (tgt := 36) C dX2_total_16 (by decide) (fun _ => ?_) (fun z => absurd z (by decide))
  refine g_iload_n C dX2_total_36 rfl 1 rfl ?_
  exact g_iret C hret hlk (e1.trans (congrArg (fun z => some (Value.int z)) rfl)) e2 dX2_total_37
abbrev rm_X2_copyFrom : Room := { frames := 2, cells := 0, slots := 0, locals := 39 }
theorem md_X2_copyFrom : yX2_copyFrom.cls = RX2 ∧ yX2_copyFrom.cls ≠ "java/lang/invoke/MethodHandle" ∧ yX2_copyFrom.cls ≠ "java/lang/invoke/VarHandle" ∧ (parseMethodDescriptor yX2_copyFrom.desc).map (fun d => d.parameters.length) = some 1 := by decide +kernel
def f_X2_copyFrom (i : Nat) (k : Nat) (ω : Mem) : Mem := (st (f_X7_copyRow 4 4 (k + 4) (i + 4) (f_X7_copyRow 10 10 (k + 3) (i + 3) (f_X7_copyRow 10 10 (k + 2) (i + 2) (f_X7_copyRow 10 10 (k + 1) (i + 1) ω)))) i 4 ((f_X7_copyRow 4 4 (k + 4) (i + 4) (f_X7_copyRow 10 10 (k + 3) (i + 3) (f_X7_copyRow 10 10 (k + 2) (i + 2) (f_X7_copyRow 10 10 (k + 1) (i + 1) ω)))) k 4))
set_option maxRecDepth 100000 in
set_option maxHeartbeats 4000000 in
theorem c_X2_copyFrom {l_ : Launch} {sa : Nat → Nat} {D : va_G} {X : Nat → ClassId} {ad : Nat → Nat} (i : Nat) (k : Nat) (hi : isLg i) (hk : isLg k) (ω : Mem)  : CT l_ yX2_copyFrom wsX2_copyFrom rm_X2_copyFrom sa D (tyX X) 120 ad (mk X ad ω) [.ref (ad i), .ref (ad k)] (none : Option Value) (mk X ad (f_X2_copyFrom i k ω)) := by
  refine ct_of [(0, .ref (ad i)), (1, .ref (ad k))] (by decide +kernel) rfl rfl (Nat.le_of_ble_eq_true rfl) rfl ?_
  intro p_ e_ s_ m_ args_ below_ meth_ c_ C hret hlk hin
  have e1 : (none : Option Value) = (none : Option Value) := rfl
  have e2 : mk X ad (f_X2_copyFrom i k ω) = mk X ad (f_X2_copyFrom i k ω) := rfl
  have iX2 : ∀ w ∈ u_ws RX2 TX2 5, w ∈ wsX2_copyFrom := by decide +kernel
  have IX7 : Cond.initialized RX7 ∈ wsX2_copyFrom := by decide +kernel
  have L13 : Cond.fieldLink RX2 13 (TX2 1).1 (TX2 1).2.1 (TX2 1).2.2.1 ∈ wsX2_copyFrom := by decide +kernel
  have L16 : Cond.fieldLink RX2 16 (TX2 2).1 (TX2 2).2.1 (TX2 2).2.2.1 ∈ wsX2_copyFrom := by decide +kernel
  have L19 : Cond.fieldLink RX2 19 (TX2 3).1 (TX2 3).2.1 (TX2 3).2.2.1 ∈ wsX2_copyFrom := by decide +kernel
  have L22 : Cond.fieldLink RX2 22 (TX2 4).1 (TX2 4).2.1 (TX2 4).2.2.1 ∈ wsX2_copyFrom := by decide +kernel
  have L9 : Cond.fieldLink RX2 9 (TX2 0).1 (TX2 0).2.1 (TX2 0).2.2.1 ∈ wsX2_copyFrom := by decide +kernel
  have TX7_copyRow : Cond.static yX7_copyRow ∈ wsX2_copyFrom := by decide +kernel
  refine g_aload_n C dX2_copyFrom_0 rfl 1 rfl ?_
  refine g_get (v := .ref (ad (k + 1))) C iX2 (hk).1 (mk_6 (hk).2.1) rfl 0 (by decide) L9 rfl dX2_copyFrom_1 ?_
  refine g_aload_n C dX2_copyFrom_4 rfl 0 rfl ?_
  refine g_get (v := .ref (ad (i + 1))) C iX2 (hi).1 (mk_6 (hi).2.1) rfl 0 (by decide) L9 rfl dX2_copyFrom_5 ?_
  refine g_callSN (rest := []) (st1 := []) C (c_X7_copyRow 10 10 (k + 1) (i + 1) hk.2.2.1 hi.2.2.1 (by omega) (by omega) ω) (va_cnB 2 C.hts gX2_copyFrom_X7_copyRow_n26 rfl rfl rfl (nw1 C.hN) (C.hts _ IX7) md_X7_copyRow.2 ⟨Nat.le_of_ble_eq_true rfl, Nat.le_of_ble_eq_true rfl⟩) TX7_copyRow rfl rfl rfl (Nat.le_of_ble_eq_true rfl) dX2_copyFrom_8 (Nat.zero_le _) (Nat.zero_le _) ?_
  refine g_aload_n C dX2_copyFrom_11 rfl 1 rfl ?_
  refine g_get (v := .ref (ad (k + 2))) C iX2 (hk).1 (mk_6 (hk).2.1) rfl 1 (by decide) L13 rfl dX2_copyFrom_12 ?_
  refine g_aload_n C dX2_copyFrom_15 rfl 0 rfl ?_
  refine g_get (v := .ref (ad (i + 2))) C iX2 (hi).1 (mk_6 (hi).2.1) rfl 1 (by decide) L13 rfl dX2_copyFrom_16 ?_
  refine g_callSN (rest := []) (st1 := []) C (c_X7_copyRow 10 10 (k + 2) (i + 2) hk.2.2.2.1 hi.2.2.2.1 (by omega) (by omega) (f_X7_copyRow 10 10 (k + 1) (i + 1) ω)) (va_cnB 2 C.hts gX2_copyFrom_X7_copyRow_n26 rfl rfl rfl (nw1 C.hN) (C.hts _ IX7) md_X7_copyRow.2 ⟨Nat.le_of_ble_eq_true rfl, Nat.le_of_ble_eq_true rfl⟩) TX7_copyRow rfl rfl rfl (Nat.le_of_ble_eq_true rfl) dX2_copyFrom_19 (Nat.zero_le _) (Nat.zero_le _) ?_
  refine g_aload_n C dX2_copyFrom_22 rfl 1 rfl ?_
  refine g_get (v := .ref (ad (k + 3))) C iX2 (hk).1 (mk_6 (hk).2.1) rfl 2 (by decide) L16 rfl dX2_copyFrom_23 ?_
  refine g_aload_n C dX2_copyFrom_26 rfl 0 rfl ?_
  refine g_get (v := .ref (ad (i + 3))) C iX2 (hi).1 (mk_6 (hi).2.1) rfl 2 (by decide) L16 rfl dX2_copyFrom_27 ?_
  refine g_callSN (rest := []) (st1 := []) C (c_X7_copyRow 10 10 (k + 3) (i + 3) hk.2.2.2.2.1 hi.2.2.2.2.1 (by omega) (by omega) (f_X7_copyRow 10 10 (k + 2) (i + 2) (f_X7_copyRow 10 10 (k + 1) (i + 1) ω))) (va_cnB 2 C.hts gX2_copyFrom_X7_copyRow_n26 rfl rfl rfl (nw1 C.hN) (C.hts _ IX7) md_X7_copyRow.2 ⟨Nat.le_of_ble_eq_true rfl, Nat.le_of_ble_eq_true rfl⟩) TX7_copyRow rfl rfl rfl (Nat.le_of_ble_eq_true rfl) dX2_copyFrom_30 (Nat.zero_le _) (Nat.zero_le _) ?_
  refine g_aload_n C dX2_copyFrom_33 rfl 1 rfl ?_
  refine g_get (v := .ref (ad (k + 4))) C iX2 (hk).1 (mk_6 (hk).2.1) rfl 3 (by decide) L19 rfl dX2_copyFrom_34 ?_
  refine g_aload_n C dX2_copyFrom_37 rfl 0 rfl ?_
  refine g_get (v := .ref (ad (i + 4))) C iX2 (hi).1 (mk_6 (hi).2.1) rfl 3 (by decide) L19 rfl dX2_copyFrom_38 ?_
  refine g_callSN (rest := []) (st1 := []) C (c_X7_copyRow 4 4 (k + 4) (i + 4) hk.2.2.2.2.2 hi.2.2.2.2.2 (by omega) (by omega) (f_X7_copyRow 10 10 (k + 3) (i + 3) (f_X7_copyRow 10 10 (k + 2) (i + 2) (f_X7_copyRow 10 10 (k + 1) (i + 1) ω)))) (va_cnB 2 C.hts gX2_copyFrom_X7_copyRow_n26 rfl rfl rfl (nw1 C.hN) (C.hts _ IX7) md_X7_copyRow.2 ⟨Nat.le_of_ble_eq_true rfl, Nat.le_of_ble_eq_true rfl⟩) TX7_copyRow rfl rfl rfl (Nat.le_of_ble_eq_true rfl) dX2_copyFrom_41 (Nat.zero_le _) (Nat.zero_le _) ?_
  refine g_aload_n C dX2_copyFrom_44 rfl 0 rfl ?_
  refine g_aload_n C dX2_copyFrom_45 rfl 1 rfl ?_
  refine g_get (v := .int ((f_X7_copyRow 4 4 (k + 4) (i + 4) (f_X7_copyRow 10 10 (k + 3) (i + 3) (f_X7_copyRow 10 10 (k + 2) (i + 2) (f_X7_copyRow 10 10 (k + 1) (i + 1) ω)))) k 4)) C iX2 (hk).1 (mk_6 (hk).2.1) rfl 4 (by decide) L22 rfl dX2_copyFrom_46 ?_
  refine g_put C iX2 tyX2 tyX2_ok nmX2 (hi).1 (mk_6 (hi).2.1) rfl 4 (by decide) L22 rfl rfl rfl (Nat.le_of_ble_eq_true rfl) dX2_copyFrom_49 ?_
  refine gv_eqG (mkp_6_4 (hi).2.1) ?_
  exact g_vret C hret hlk e1 (e2.trans (congrArg (mk X ad) rfl)) dX2_copyFrom_52
abbrev rm_X3_draftIn : Room := { frames := 0, cells := 0, slots := 0, locals := 0 }
theorem md_X3_draftIn : yX3_draftIn.cls = RX3 ∧ yX3_draftIn.cls ≠ "java/lang/invoke/MethodHandle" ∧ yX3_draftIn.cls ≠ "java/lang/invoke/VarHandle" ∧ (parseMethodDescriptor yX3_draftIn.desc).map (fun d => d.parameters.length) = some 1 := by decide +kernel
def f_X3_draftIn_4 : Nat → Nat → Int32 → Int32 → Nat → Mem → Int32
  | 0, _, _, _, _, _ => 0
  | fu + 1, i, t, d, j, ω => (if (ω i 2) ≤ (nI (j)) then d else (if 12 ≤ j then d else (if t < (ω (i + 1) j) then (f_X3_draftIn_4 fu i t d (j + 1) ω) else (f_X3_draftIn_4 fu i t (ω (i + 2) j) (j + 1) ω))))
set_option maxRecDepth 100000 in
set_option maxHeartbeats 4000000 in
theorem k_X3_draftIn_4 {l_ : Launch} {p_ : Program} {e_ : Env} {s_ : State} {m_ : MethodId} {args_ : Array Value} {below_ : List Frame} {meth_ : Method} {c_ : Code} {sa : Nat → Nat} {D : va_G} {X : Nat → ClassId} {ad : Nat → Nat} {G0 : Nat → va_E} (fu : Nat) (i : Nat) (t : Int32) (hi : isPl i) (C : GC p_ rm_X3_draftIn s_ m_ args_ meth_ c_ cX3_draftIn 4 wsX3_draftIn RX3 sa D (tyX X) (va_A (gw 120 ad G0) s_.heap.size)) (hret : meth_.sig.returnType = (some .int)) (hlk : meth_.locks = false) : ∀ (d : Int32) (j : Nat) (ω : Mem) (hj : j ≤ 12) (hfuel : 12 < j + fu) (rv : Option Value) (G2 : Nat → va_E) (e1 : rv = some (.int (f_X3_draftIn_4 fu i t d j ω))) (e2 : G2 = mk X ad ω), GV p_ l_ e_ rm_X3_draftIn s_ m_ args_ below_ meth_ c_ 0 0 (CQ below_ args_ s_ D 120 ad G0 rv G2) D (va_A (gw 120 ad G0) s_.heap.size) 4 120 ad (mk X ad ω) [(0, .ref (ad i)), (1, .int t), (2, .int d), (3, .int (nI (j)))] 4 [] := by
  have iX3 : ∀ w ∈ u_ws RX3 TX3 3, w ∈ wsX3_draftIn := by decide +kernel
  have L13 : Cond.fieldLink RX3 13 (TX3 1).1 (TX3 1).2.1 (TX3 1).2.2.1 ∈ wsX3_draftIn := by decide +kernel
  have L16 : Cond.fieldLink RX3 16 (TX3 2).1 (TX3 2).2.1 (TX3 2).2.2.1 ∈ wsX3_draftIn := by decide +kernel
  have L9 : Cond.fieldLink RX3 9 (TX3 0).1 (TX3 0).2.1 (TX3 0).2.2.1 ∈ wsX3_draftIn := by decide +kernel
  induction fu with
  | zero =>
    intro d j ω hj hfuel rv G2 e1 e2
    exact absurd hfuel (by omega)
  | succ fu ih =>
    intro d j ω hj hfuel rv G2 e1 e2
    refine g_iload_n C dX3_draftIn_4 rfl 3 rfl ?_
    refine g_aload_n C dX3_draftIn_5 rfl 0 rfl ?_
    refine g_get (v := .int (ω i 2)) C iX3 (hi).1 (mk_5 (hi).2.1) rfl 2 (by decide) L16 rfl dX3_draftIn_6 ?_
    refine g_icmp_ge (tgt := 41) C dX3_draftIn_9 (by decide) (fun h1 => ?_) (fun h1 => ?_)
    · refine g_iload_n C dX3_draftIn_41 rfl 2 rfl ?_
      exact g_iret C hret hlk (e1.trans (congrArg (fun z => some (Value.int z)) ((if_pos h1).trans rfl))) e2 dX3_draftIn_42
    · refine g_iload_n C dX3_draftIn_12 rfl 3 rfl ?_
      refine g_bipush (v := 12) C dX3_draftIn_13 (by decide) ?_
      refine g_icmp_ge (tgt := 41) C dX3_draftIn_15 (by decide) (fun h2 => ?_) (fun h2 => ?_)
      · have h2n := (nI_leI (a := 12) (b := j) (by omega) (by omega)).mp h2
        refine g_iload_n C dX3_draftIn_41 rfl 2 rfl ?_
        exact g_iret C hret hlk (e1.trans (congrArg (fun z => some (Value.int z)) ((if_neg h1).trans ((if_pos h2n).trans rfl)))) e2 dX3_draftIn_42
      · have h2n := (not_congr (nI_leI (a := 12) (b := j) (by omega) (by omega))).mp h2
        refine g_aload_n C dX3_draftIn_18 rfl 0 rfl ?_
        refine g_get (v := .ref (ad (i + 1))) C iX3 (hi).1 (mk_5 (hi).2.1) rfl 0 (by decide) L9 rfl dX3_draftIn_19 ?_
        refine g_iload_n C dX3_draftIn_22 rfl 3 rfl ?_
        refine g_iald (k := j) C 0 (hi.2.2.1).1 (mk_12n (N := 12) (hi.2.2.1).2.1 (hi.2.2.1).2.2) rfl (vp_in_nI (n := j) (by omega) (by decide)) (nI_clamp (n := j) (by omega)) dX3_draftIn_23 ?_
        refine g_iload_n C dX3_draftIn_24 rfl 1 rfl ?_
        refine g_icmp_gt (tgt := 35) C dX3_draftIn_25 (by decide) (fun h3 => ?_) (fun h3 => ?_)
        · refine g_iinc (k := 3) (v := (nI (j + 1))) (lv' := [(3, .int (nI (j + 1))), (0, .ref (ad i)), (1, .int t), (2, .int d)]) C dX3_draftIn_35 rfl (nI_1 (j)) (by decide) rfl ?_
          refine g_goto (tgt := 4) C dX3_draftIn_38 (by decide) ?_
          refine gv_lv (lv' := [(0, .ref (ad i)), (1, .int t), (2, .int d), (3, .int (nI (j + 1)))]) [1, 2, 3, 0] rfl ?_
          exact ih d (j + 1) ω (by omega) (by omega) _ _ (e1.trans (congrArg (fun z => some (Value.int z)) ((if_neg h1).trans ((if_neg h2n).trans ((if_pos h3).trans rfl))))) e2
        · refine g_aload_n C dX3_draftIn_28 rfl 0 rfl ?_
          refine g_get (v := .ref (ad (i + 2))) C iX3 (hi).1 (mk_5 (hi).2.1) rfl 1 (by decide) L13 rfl dX3_draftIn_29 ?_
          refine g_iload_n C dX3_draftIn_32 rfl 3 rfl ?_
          refine g_iald (k := j) C 0 (hi.2.2.2).1 (mk_12n (N := 12) (hi.2.2.2).2.1 (hi.2.2.2).2.2) rfl (vp_in_nI (n := j) (by omega) (by decide)) (nI_clamp (n := j) (by omega)) dX3_draftIn_33 ?_
          refine g_istore_n (lv' := [(2, .int (ω (i + 2) j)), (0, .ref (ad i)), (1, .int t), (3, .int (nI (j)))]) C dX3_draftIn_34 rfl (by decide) rfl ?_
          refine g_iinc (k := 3) (v := (nI (j + 1))) (lv' := [(3, .int (nI (j + 1))), (2, .int (ω (i + 2) j)), (0, .ref (ad i)), (1, .int t)]) C dX3_draftIn_35 rfl (nI_1 (j)) (by decide) rfl ?_
          refine g_goto (tgt := 4) C dX3_draftIn_38 (by decide) ?_
          refine gv_lv (lv' := [(0, .ref (ad i)), (1, .int t), (2, .int (ω (i + 2) j)), (3, .int (nI (j + 1)))]) [2, 3, 1, 0] rfl ?_
          exact ih (ω (i + 2) j) (j + 1) ω (by omega) (by omega) _ _ (e1.trans (congrArg (fun z => some (Value.int z)) ((if_neg h1).trans ((if_neg h2n).trans ((if_neg h3).trans rfl))))) e2
def f_X3_draftIn (i : Nat) (t : Int32) (ω : Mem) : Int32 := (f_X3_draftIn_4 13 i t 0 0 ω)
set_option maxRecDepth 100000 in
set_option maxHeartbeats 4000000 in
theorem c_X3_draftIn {l_ : Launch} {sa : Nat → Nat} {D : va_G} {X : Nat → ClassId} {ad : Nat → Nat} (i : Nat) (t : Int32) (hi : isPl i) (ω : Mem)  : CT l_ yX3_draftIn wsX3_draftIn rm_X3_draftIn sa D (tyX X) 120 ad (mk X ad ω) [.ref (ad i), .int t] (some (.int (f_X3_draftIn i t ω)) : Option Value) (mk X ad ω) := by
  refine ct_of [(0, .ref (ad i)), (1, .int t)] (by decide +kernel) rfl rfl (Nat.le_of_ble_eq_true rfl) rfl ?_
  intro p_ e_ s_ m_ args_ below_ meth_ c_ C hret hlk hin
  have e1 : (some (.int (f_X3_draftIn i t ω)) : Option Value) = (some (.int (f_X3_draftIn i t ω)) : Option Value) := rfl
  have e2 : mk X ad ω = mk X ad ω := rfl
  refine g_iconst (v := 0) C dX3_draftIn_0 (by decide) ?_
  refine g_istore_n (lv' := [(2, .int 0), (0, .ref (ad i)), (1, .int t)]) C dX3_draftIn_1 rfl (by decide) rfl ?_
  refine g_iconst (v := 0) C dX3_draftIn_2 (by decide) ?_
  refine g_istore_n (lv' := [(3, .int 0), (2, .int 0), (0, .ref (ad i)), (1, .int t)]) C dX3_draftIn_3 rfl (by decide) rfl ?_
  refine gv_lv (lv' := [(0, .ref (ad i)), (1, .int t), (2, .int 0), (3, .int 0)]) [2, 3, 1, 0] rfl ?_
  exact k_X3_draftIn_4 (13) i t hi C hret hlk 0 0 ω (by omega) (by omega) _ _ (e1.trans (congrArg (fun z => some (Value.int z)) rfl)) e2
abbrev rm_X3_placeOf : Room := { frames := 0, cells := 0, slots := 0, locals := 0 }
theorem md_X3_placeOf : yX3_placeOf.cls = RX3 ∧ yX3_placeOf.cls ≠ "java/lang/invoke/MethodHandle" ∧ yX3_placeOf.cls ≠ "java/lang/invoke/VarHandle" ∧ (parseMethodDescriptor yX3_placeOf.desc).map (fun d => d.parameters.length) = some 1 := by decide +kernel
def f_X3_placeOf_2 : Nat → Nat → Int32 → Nat → Mem → Int32
  | 0, _, _, _, _ => 0
  | fu + 1, i, t, j, ω => (if (ω i 2) ≤ (nI (j)) then (ω i 2) else (if 12 ≤ j then (ω i 2) else (if (ω (i + 1) j) = t then (nI (j)) else (f_X3_placeOf_2 fu i t (j + 1) ω))))
set_option maxRecDepth 100000 in
set_option maxHeartbeats 4000000 in
theorem k_X3_placeOf_2 {l_ : Launch} {p_ : Program} {e_ : Env} {s_ : State} {m_ : MethodId} {args_ : Array Value} {below_ : List Frame} {meth_ : Method} {c_ : Code} {sa : Nat → Nat} {D : va_G} {X : Nat → ClassId} {ad : Nat → Nat} {G0 : Nat → va_E} (fu : Nat) (i : Nat) (t : Int32) (hi : isPl i) (C : GC p_ rm_X3_placeOf s_ m_ args_ meth_ c_ cX3_placeOf 3 wsX3_placeOf RX3 sa D (tyX X) (va_A (gw 120 ad G0) s_.heap.size)) (hret : meth_.sig.returnType = (some .int)) (hlk : meth_.locks = false) : ∀ (j : Nat) (ω : Mem) (hj : j ≤ 12) (hfuel : 12 < j + fu) (rv : Option Value) (G2 : Nat → va_E) (e1 : rv = some (.int (f_X3_placeOf_2 fu i t j ω))) (e2 : G2 = mk X ad ω), GV p_ l_ e_ rm_X3_placeOf s_ m_ args_ below_ meth_ c_ 0 0 (CQ below_ args_ s_ D 120 ad G0 rv G2) D (va_A (gw 120 ad G0) s_.heap.size) 3 120 ad (mk X ad ω) [(0, .ref (ad i)), (1, .int t), (2, .int (nI (j)))] 2 [] := by
  have iX3 : ∀ w ∈ u_ws RX3 TX3 3, w ∈ wsX3_placeOf := by decide +kernel
  have L16 : Cond.fieldLink RX3 16 (TX3 2).1 (TX3 2).2.1 (TX3 2).2.2.1 ∈ wsX3_placeOf := by decide +kernel
  have L9 : Cond.fieldLink RX3 9 (TX3 0).1 (TX3 0).2.1 (TX3 0).2.2.1 ∈ wsX3_placeOf := by decide +kernel
  induction fu with
  | zero =>
    intro j ω hj hfuel rv G2 e1 e2
    exact absurd hfuel (by omega)
  | succ fu ih =>
    intro j ω hj hfuel rv G2 e1 e2
    refine g_iload_n C dX3_placeOf_2 rfl 2 rfl ?_
    refine g_aload_n C dX3_placeOf_3 rfl 0 rfl ?_
    refine g_get (v := .int (ω i 2)) C iX3 (hi).1 (mk_5 (hi).2.1) rfl 2 (by decide) L16 rfl dX3_placeOf_4 ?_
    refine g_icmp_ge (tgt := 34) C dX3_placeOf_7 (by decide) (fun h1 => ?_) (fun h1 => ?_)
    · refine g_aload_n C dX3_placeOf_34 rfl 0 rfl ?_
      refine g_get (v := .int (ω i 2)) C iX3 (hi).1 (mk_5 (hi).2.1) rfl 2 (by decide) L16 rfl dX3_placeOf_35 ?_
      exact g_iret C hret hlk (e1.trans (congrArg (fun z => some (Value.int z)) ((if_pos h1).trans rfl))) e2 dX3_placeOf_38
    · refine g_iload_n C dX3_placeOf_10 rfl 2 rfl ?_
      refine g_bipush (v := 12) C dX3_placeOf_11 (by decide) ?_
      refine g_icmp_ge (tgt := 34) C dX3_placeOf_13 (by decide) (fun h2 => ?_) (fun h2 => ?_)
      · have h2n := (nI_leI (a := 12) (b := j) (by omega) (by omega)).mp h2
        refine g_aload_n C dX3_placeOf_34 rfl 0 rfl ?_
        refine g_get (v := .int (ω i 2)) C iX3 (hi).1 (mk_5 (hi).2.1) rfl 2 (by decide) L16 rfl dX3_placeOf_35 ?_
        exact g_iret C hret hlk (e1.trans (congrArg (fun z => some (Value.int z)) ((if_neg h1).trans ((if_pos h2n).trans rfl)))) e2 dX3_placeOf_38
      · have h2n := (not_congr (nI_leI (a := 12) (b := j) (by omega) (by omega))).mp h2
        refine g_aload_n C dX3_placeOf_16 rfl 0 rfl ?_
        refine g_get (v := .ref (ad (i + 1))) C iX3 (hi).1 (mk_5 (hi).2.1) rfl 0 (by decide) L9 rfl dX3_placeOf_17 ?_
        refine g_iload_n C dX3_placeOf_20 rfl 2 rfl ?_
        refine g_iald (k := j) C 0 (hi.2.2.1).1 (mk_12n (N := 12) (hi.2.2.1).2.1 (hi.2.2.1).2.2) rfl (vp_in_nI (n := j) (by omega) (by decide)) (nI_clamp (n := j) (by omega)) dX3_placeOf_21 ?_
        refine g_iload_n C dX3_placeOf_22 rfl 1 rfl ?_
        refine g_icmp_ne (tgt := 28) C dX3_placeOf_23 (by decide) (fun h3 => ?_) (fun h3 => ?_)
        · refine g_iinc (k := 2) (v := (nI (j + 1))) (lv' := [(2, .int (nI (j + 1))), (0, .ref (ad i)), (1, .int t)]) C dX3_placeOf_28 rfl (nI_1 (j)) (by decide) rfl ?_
          refine g_goto (tgt := 2) C dX3_placeOf_31 (by decide) ?_
          refine gv_lv (lv' := [(0, .ref (ad i)), (1, .int t), (2, .int (nI (j + 1)))]) [1, 2, 0] rfl ?_
          exact ih (j + 1) ω (by omega) (by omega) _ _ (e1.trans (congrArg (fun z => some (Value.int z)) ((if_neg h1).trans ((if_neg h2n).trans ((if_neg h3).trans rfl))))) e2
        · refine g_iload_n C dX3_placeOf_26 rfl 2 rfl ?_
          exact g_iret C hret hlk (e1.trans (congrArg (fun z => some (Value.int z)) ((if_neg h1).trans ((if_neg h2n).trans ((if_pos h3).trans rfl))))) e2 dX3_placeOf_27
def f_X3_placeOf (i : Nat) (t : Int32) (ω : Mem) : Int32 := (f_X3_placeOf_2 13 i t 0 ω)
set_option maxRecDepth 100000 in
set_option maxHeartbeats 4000000 in
theorem c_X3_placeOf {l_ : Launch} {sa : Nat → Nat} {D : va_G} {X : Nat → ClassId} {ad : Nat → Nat} (i : Nat) (t : Int32) (hi : isPl i) (ω : Mem)  : CT l_ yX3_placeOf wsX3_placeOf rm_X3_placeOf sa D (tyX X) 120 ad (mk X ad ω) [.ref (ad i), .int t] (some (.int (f_X3_placeOf i t ω)) : Option Value) (mk X ad ω) := by
  refine ct_of [(0, .ref (ad i)), (1, .int t)] (by decide +kernel) rfl rfl (Nat.le_of_ble_eq_true rfl) rfl ?_
  intro p_ e_ s_ m_ args_ below_ meth_ c_ C hret hlk hin
  have e1 : (some (.int (f_X3_placeOf i t ω)) : Option Value) = (some (.int (f_X3_placeOf i t ω)) : Option Value) := rfl
  have e2 : mk X ad ω = mk X ad ω := rfl
  refine g_iconst (v := 0) C dX3_placeOf_0 (by decide) ?_
  refine g_istore_n (lv' := [(2, .int 0), (0, .ref (ad i)), (1, .int t)]) C dX3_placeOf_1 rfl (by decide) rfl ?_
  refine gv_lv (lv' := [(0, .ref (ad i)), (1, .int t), (2, .int 0)]) [1, 2, 0] rfl ?_
  exact k_X3_placeOf_2 (13) i t hi C hret hlk 0 ω (by omega) (by omega) _ _ (e1.trans (congrArg (fun z => some (Value.int z)) rfl)) e2
def f_X3_clear (i : Nat) (ω : Mem) : Mem := (st ω i 2 0)
abbrev rm_X3_copyFrom : Room := { frames := 2, cells := 0, slots := 0, locals := 39 }
theorem md_X3_copyFrom : yX3_copyFrom.cls = RX3 ∧ yX3_copyFrom.cls ≠ "java/lang/invoke/MethodHandle" ∧ yX3_copyFrom.cls ≠ "java/lang/invoke/VarHandle" ∧ (parseMethodDescriptor yX3_copyFrom.desc).map (fun d => d.parameters.length) = some 1 := by decide +kernel
def f_X3_copyFrom (i : Nat) (k : Nat) (ω : Mem) : Mem := (st (f_X7_copyRow 12 12 (k + 2) (i + 2) (f_X7_copyRow 12 12 (k + 1) (i + 1) ω)) i 2 ((f_X7_copyRow 12 12 (k + 2) (i + 2) (f_X7_copyRow 12 12 (k + 1) (i + 1) ω)) k 2))
set_option maxRecDepth 100000 in
set_option maxHeartbeats 4000000 in
theorem c_X3_copyFrom {l_ : Launch} {sa : Nat → Nat} {D : va_G} {X : Nat → ClassId} {ad : Nat → Nat} (i : Nat) (k : Nat) (hi : isPl i) (hk : isPl k) (ω : Mem)  : CT l_ yX3_copyFrom wsX3_copyFrom rm_X3_copyFrom sa D (tyX X) 120 ad (mk X ad ω) [.ref (ad i), .ref (ad k)] (none : Option Value) (mk X ad (f_X3_copyFrom i k ω)) := by
  refine ct_of [(0, .ref (ad i)), (1, .ref (ad k))] (by decide +kernel) rfl rfl (Nat.le_of_ble_eq_true rfl) rfl ?_
  intro p_ e_ s_ m_ args_ below_ meth_ c_ C hret hlk hin
  have e1 : (none : Option Value) = (none : Option Value) := rfl
  have e2 : mk X ad (f_X3_copyFrom i k ω) = mk X ad (f_X3_copyFrom i k ω) := rfl
  have iX3 : ∀ w ∈ u_ws RX3 TX3 3, w ∈ wsX3_copyFrom := by decide +kernel
  have IX7 : Cond.initialized RX7 ∈ wsX3_copyFrom := by decide +kernel
  have L13 : Cond.fieldLink RX3 13 (TX3 1).1 (TX3 1).2.1 (TX3 1).2.2.1 ∈ wsX3_copyFrom := by decide +kernel
  have L16 : Cond.fieldLink RX3 16 (TX3 2).1 (TX3 2).2.1 (TX3 2).2.2.1 ∈ wsX3_copyFrom := by decide +kernel
  have L9 : Cond.fieldLink RX3 9 (TX3 0).1 (TX3 0).2.1 (TX3 0).2.2.1 ∈ wsX3_copyFrom := by decide +kernel
  have TX7_copyRow : Cond.static yX7_copyRow ∈ wsX3_copyFrom := by decide +kernel
  refine g_aload_n C dX3_copyFrom_0 rfl 1 rfl ?_
  refine g_get (v := .ref (ad (k + 1))) C iX3 (hk).1 (mk_5 (hk).2.1) rfl 0 (by decide) L9 rfl dX3_copyFrom_1 ?_
  refine g_aload_n C dX3_copyFrom_4 rfl 0 rfl ?_
  refine g_get (v := .ref (ad (i + 1))) C iX3 (hi).1 (mk_5 (hi).2.1) rfl 0 (by decide) L9 rfl dX3_copyFrom_5 ?_
  refine g_callSN (rest := []) (st1 := []) C (c_X7_copyRow 12 12 (k + 1) (i + 1) hk.2.2.1 hi.2.2.1 (by omega) (by omega) ω) (va_cnB 2 C.hts gX3_copyFrom_X7_copyRow_n20 rfl rfl rfl (nw3 C.hN) (C.hts _ IX7) md_X7_copyRow.2 ⟨Nat.le_of_ble_eq_true rfl, Nat.le_of_ble_eq_true rfl⟩) TX7_copyRow rfl rfl rfl (Nat.le_of_ble_eq_true rfl) dX3_copyFrom_8 (Nat.zero_le _) (Nat.zero_le _) ?_
  refine g_aload_n C dX3_copyFrom_11 rfl 1 rfl ?_
  refine g_get (v := .ref (ad (k + 2))) C iX3 (hk).1 (mk_5 (hk).2.1) rfl 1 (by decide) L13 rfl dX3_copyFrom_12 ?_
  refine g_aload_n C dX3_copyFrom_15 rfl 0 rfl ?_
  refine g_get (v := .ref (ad (i + 2))) C iX3 (hi).1 (mk_5 (hi).2.1) rfl 1 (by decide) L13 rfl dX3_copyFrom_16 ?_
  refine g_callSN (rest := []) (st1 := []) C (c_X7_copyRow 12 12 (k + 2) (i + 2) hk.2.2.2 hi.2.2.2 (by omega) (by omega) (f_X7_copyRow 12 12 (k + 1) (i + 1) ω)) (va_cnB 2 C.hts gX3_copyFrom_X7_copyRow_n20 rfl rfl rfl (nw3 C.hN) (C.hts _ IX7) md_X7_copyRow.2 ⟨Nat.le_of_ble_eq_true rfl, Nat.le_of_ble_eq_true rfl⟩) TX7_copyRow rfl rfl rfl (Nat.le_of_ble_eq_true rfl) dX3_copyFrom_19 (Nat.zero_le _) (Nat.zero_le _) ?_
  refine g_aload_n C dX3_copyFrom_22 rfl 0 rfl ?_
  refine g_aload_n C dX3_copyFrom_23 rfl 1 rfl ?_
  refine g_get (v := .int ((f_X7_copyRow 12 12 (k + 2) (i + 2) (f_X7_copyRow 12 12 (k + 1) (i + 1) ω)) k 2)) C iX3 (hk).1 (mk_5 (hk).2.1) rfl 2 (by decide) L16 rfl dX3_copyFrom_24 ?_
  refine g_put C iX3 tyX3 tyX3_ok nmX3 (hi).1 (mk_5 (hi).2.1) rfl 2 (by decide) L16 rfl rfl rfl (Nat.le_of_ble_eq_true rfl) dX3_copyFrom_27 ?_
  refine gv_eqG (mkp_5_2 (hi).2.1) ?_
  exact g_vret C hret hlk e1 (e2.trans (congrArg (mk X ad) rfl)) dX3_copyFrom_30
abbrev rm_X3_hasRoomFor : Room := { frames := 1, cells := 0, slots := 0, locals := 22 }
theorem md_X3_hasRoomFor : yX3_hasRoomFor.cls = RX3 ∧ yX3_hasRoomFor.cls ≠ "java/lang/invoke/MethodHandle" ∧ yX3_hasRoomFor.cls ≠ "java/lang/invoke/VarHandle" ∧ (parseMethodDescriptor yX3_hasRoomFor.desc).map (fun d => d.parameters.length) = some 1 := by decide +kernel
def f_X3_hasRoomFor (i : Nat) (t : Int32) (ω : Mem) : Int32 := (if (ω i 2) < 12 then 1 else (if (ω i 2) ≤ (f_X3_placeOf i t ω) then 0 else 1))
set_option maxRecDepth 100000 in
set_option maxHeartbeats 4000000 in
theorem c_X3_hasRoomFor {l_ : Launch} {sa : Nat → Nat} {D : va_G} {X : Nat → ClassId} {ad : Nat → Nat} (i : Nat) (t : Int32) (hi : isPl i) (ω : Mem)  : CT l_ yX3_hasRoomFor wsX3_hasRoomFor rm_X3_hasRoomFor sa D (tyX X) 120 ad (mk X ad ω) [.ref (ad i), .int t] (some (.int (f_X3_hasRoomFor i t ω)) : Option Value) (mk X ad ω) := by
  refine ct_of [(0, .ref (ad i)), (1, .int t)] (by decide +kernel) rfl rfl (Nat.le_of_ble_eq_true rfl) rfl ?_
  intro p_ e_ s_ m_ args_ below_ meth_ c_ C hret hlk hin
  have e1 : (some (.int (f_X3_hasRoomFor i t ω)) : Option Value) = (some (.int (f_X3_hasRoomFor i t ω)) : Option Value) := rfl
  have e2 : mk X ad ω = mk X ad ω := rfl
  have iX3 : ∀ w ∈ u_ws RX3 TX3 3, w ∈ wsX3_hasRoomFor := by decide +kernel
  have L16 : Cond.fieldLink RX3 16 (TX3 2).1 (TX3 2).2.1 (TX3 2).2.2.1 ∈ wsX3_hasRoomFor := by decide +kernel
  refine g_aload_n C dX3_hasRoomFor_0 rfl 0 rfl ?_
  refine g_get (v := .int (ω i 2)) C iX3 (hi).1 (mk_5 (hi).2.1) rfl 2 (by decide) L16 rfl dX3_hasRoomFor_1 ?_
  refine g_bipush (v := 12) C dX3_hasRoomFor_4 (by decide) ?_
  refine g_icmp_lt (tgt := 21) C dX3_hasRoomFor_6 (by decide) (fun h1 => ?_) (fun h1 => ?_)
  · refine g_iconst (v := 1) C dX3_hasRoomFor_21 (by decide) ?_
    refine g_goto (tgt := 26) C dX3_hasRoomFor_22 (by decide) ?_
    exact g_zret C hret hlk (nar_b (by decide)).1 (e1.trans (congrArg (fun z => some (Value.int z)) ((if_pos h1).trans rfl))) e2 dX3_hasRoomFor_26
  · refine g_aload_n C dX3_hasRoomFor_9 rfl 0 rfl ?_
    refine g_iload_n C dX3_hasRoomFor_10 rfl 1 rfl ?_
    refine g_callV (rest := []) (st1 := [.int (f_X3_placeOf i t ω)]) C (c_X3_placeOf i t hi ω) (cwV 1 C.hts gX3_hasRoomFor_X3_placeOf rfl rfl rfl md_X3_placeOf ⟨Nat.le_of_ble_eq_true rfl, Nat.le_of_ble_eq_true rfl⟩) (hi).1 (mk_5 (hi).2.1) rfl rfl rfl rfl rfl (Nat.le_of_ble_eq_true rfl) dX3_hasRoomFor_11 (Nat.zero_le _) (Nat.zero_le _) ?_
    refine g_aload_n C dX3_hasRoomFor_14 rfl 0 rfl ?_
    refine g_get (v := .int (ω i 2)) C iX3 (hi).1 (mk_5 (hi).2.1) rfl 2 (by decide) L16 rfl dX3_hasRoomFor_15 ?_
    refine g_icmp_ge (tgt := 25) C dX3_hasRoomFor_18 (by decide) (fun h2 => ?_) (fun h2 => ?_)
    · refine g_iconst (v := 0) C dX3_hasRoomFor_25 (by decide) ?_
      exact g_zret C hret hlk (nar_b (by decide)).1 (e1.trans (congrArg (fun z => some (Value.int z)) ((if_neg h1).trans ((if_pos h2).trans rfl)))) e2 dX3_hasRoomFor_26
    · refine g_iconst (v := 1) C dX3_hasRoomFor_21 (by decide) ?_
      refine g_goto (tgt := 26) C dX3_hasRoomFor_22 (by decide) ?_
      exact g_zret C hret hlk (nar_b (by decide)).1 (e1.trans (congrArg (fun z => some (Value.int z)) ((if_neg h1).trans ((if_neg h2).trans rfl)))) e2 dX3_hasRoomFor_26
theorem z_X3_hasRoomFor {i : Nat} {t : Int32} {ω : Mem} : bb (f_X3_hasRoomFor i t ω) = f_X3_hasRoomFor i t ω := by
  unfold f_X3_hasRoomFor
  repeat' split
  all_goals first | with_reducible exact bb_bb _ | decide
abbrev rm_X3_holds : Room := { frames := 1, cells := 0, slots := 0, locals := 22 }
theorem md_X3_holds : yX3_holds.cls = RX3 ∧ yX3_holds.cls ≠ "java/lang/invoke/MethodHandle" ∧ yX3_holds.cls ≠ "java/lang/invoke/VarHandle" ∧ (parseMethodDescriptor yX3_holds.desc).map (fun d => d.parameters.length) = some 2 := by decide +kernel
def f_X3_holds (i : Nat) (t : Int32) (d : Int32) (ω : Mem) : Int32 := (if (ω i 2) ≤ (f_X3_placeOf i t ω) then 0 else (if (f_X7_elementAt 12 (i + 2) (f_X3_placeOf i t ω) ω) = d then 1 else 0))
set_option maxRecDepth 100000 in
set_option maxHeartbeats 4000000 in
theorem c_X3_holds {l_ : Launch} {sa : Nat → Nat} {D : va_G} {X : Nat → ClassId} {ad : Nat → Nat} (i : Nat) (t : Int32) (d : Int32) (hi : isPl i) (ω : Mem)  : CT l_ yX3_holds wsX3_holds rm_X3_holds sa D (tyX X) 120 ad (mk X ad ω) [.ref (ad i), .int t, .int d] (some (.int (f_X3_holds i t d ω)) : Option Value) (mk X ad ω) := by
  refine ct_of [(0, .ref (ad i)), (1, .int t), (2, .int d)] (by decide +kernel) rfl rfl (Nat.le_of_ble_eq_true rfl) rfl ?_
  intro p_ e_ s_ m_ args_ below_ meth_ c_ C hret hlk hin
  have e1 : (some (.int (f_X3_holds i t d ω)) : Option Value) = (some (.int (f_X3_holds i t d ω)) : Option Value) := rfl
  have e2 : mk X ad ω = mk X ad ω := rfl
  have iX3 : ∀ w ∈ u_ws RX3 TX3 3, w ∈ wsX3_holds := by decide +kernel
  have IX7 : Cond.initialized RX7 ∈ wsX3_holds := by decide +kernel
  have L13 : Cond.fieldLink RX3 13 (TX3 1).1 (TX3 1).2.1 (TX3 1).2.2.1 ∈ wsX3_holds := by decide +kernel
  have L16 : Cond.fieldLink RX3 16 (TX3 2).1 (TX3 2).2.1 (TX3 2).2.2.1 ∈ wsX3_holds := by decide +kernel
  have TX7_elementAt : Cond.static yX7_elementAt ∈ wsX3_holds := by decide +kernel
  refine g_aload_n C dX3_holds_0 rfl 0 rfl ?_
  refine g_iload_n C dX3_holds_1 rfl 1 rfl ?_
  refine g_callV (rest := []) (st1 := [.int (f_X3_placeOf i t ω)]) C (c_X3_placeOf i t hi ω) (cwV 1 C.hts gX3_holds_X3_placeOf rfl rfl rfl md_X3_placeOf ⟨Nat.le_of_ble_eq_true rfl, Nat.le_of_ble_eq_true rfl⟩) (hi).1 (mk_5 (hi).2.1) rfl rfl rfl rfl rfl (Nat.le_of_ble_eq_true rfl) dX3_holds_2 (Nat.zero_le _) (Nat.zero_le _) ?_
  refine g_istore_n (lv' := [(3, .int (f_X3_placeOf i t ω)), (0, .ref (ad i)), (1, .int t), (2, .int d)]) C dX3_holds_5 rfl (by decide) rfl ?_
  refine g_iload_n C dX3_holds_6 rfl 0 rfl ?_
  refine g_aload_n C dX3_holds_7 rfl 1 rfl ?_
  refine g_get (v := .int (ω i 2)) C iX3 (hi).1 (mk_5 (hi).2.1) rfl 2 (by decide) L16 rfl dX3_holds_8 ?_
  refine g_icmp_ge (tgt := 30) C dX3_holds_11 (by decide) (fun h1 => ?_) (fun h1 => ?_)
  · refine g_iconst (v := 0) C dX3_holds_30 (by decide) ?_
    exact g_zret C hret hlk (nar_b (by decide)).1 (e1.trans (congrArg (fun z => some (Value.int z)) ((if_pos h1).trans rfl))) e2 dX3_holds_31
  · refine g_aload_n C dX3_holds_14 rfl 1 rfl ?_
    refine g_get (v := .ref (ad (i + 2))) C iX3 (hi).1 (mk_5 (hi).2.1) rfl 1 (by decide) L13 rfl dX3_holds_15 ?_
    refine g_iload_n C dX3_holds_18 rfl 0 rfl ?_
    refine g_callSN (rest := []) (st1 := [.int (f_X7_elementAt 12 (i + 2) (f_X3_placeOf i t ω) ω)]) C (c_X7_elementAt 12 (i + 2) (f_X3_placeOf i t ω) hi.2.2.2 (by omega) ω) (va_cnB 2 C.hts gX3_holds_X7_elementAt_n30 rfl rfl rfl (nw4 C.hN) (C.hts _ IX7) md_X7_elementAt.2 ⟨Nat.le_of_ble_eq_true rfl, Nat.le_of_ble_eq_true rfl⟩) TX7_elementAt rfl rfl rfl (Nat.le_of_ble_eq_true rfl) dX3_holds_19 (Nat.zero_le _) (Nat.zero_le _) ?_
    refine g_iload_n C dX3_holds_22 rfl 3 rfl ?_
    refine g_icmp_ne (tgt := 30) C dX3_holds_23 (by decide) (fun h2 => ?_) (fun h2 => ?_)
    · refine g_iconst (v := 0) C dX3_holds_30 (by decide) ?_
      exact g_zret C hret hlk (nar_b (by decide)).1 (e1.trans (congrArg (fun z => some (Value.int z)) ((if_neg h1).trans ((if_neg h2).trans rfl)))) e2 dX3_holds_31
    · refine g_iconst (v := 1) C dX3_holds_26 (by decide) ?_
      refine g_goto (tgt := 31) C dX3_holds_27 (by decide) ?_
      exact g_zret C hret hlk (nar_b (by decide)).1 (e1.trans (congrArg (fun z => some (Value.int z)) ((if_neg h1).trans ((if_pos h2).trans rfl)))) e2 dX3_holds_31
theorem z_X3_holds {i : Nat} {t : Int32} {d : Int32} {ω : Mem} : bb (f_X3_holds i t d ω) = f_X3_holds i t d ω := by
  unfold f_X3_holds
  repeat' split
  all_goals first | with_reducible exact bb_bb _ | decide
