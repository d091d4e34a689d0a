abbrev rm_X7_isWithin : Room := { frames := 0, cells := 0, slots := 0, locals := 0 }
theorem md_X7_isWithin : yX7_isWithin.cls = RX7 ∧ yX7_isWithin.cls ≠ "java/lang/invoke/MethodHandle" ∧ yX7_isWithin.cls ≠ "java/lang/invoke/VarHandle" ∧ (parseMethodDescriptor yX7_isWithin.desc).map (fun d => d.parameters.length) = some 3 := by decide +kernel
def f_X7_isWithin (v : Int32) (a : Int32) (b : Int32) (ω : Mem) : Int32 := (if v < a then 0 else (if b < v then 0 else 1))
set_option maxRecDepth 100000 in
set_option maxHeartbeats 4000000 in
theorem c_X7_isWithin {l_ : Launch} {sa : Nat → Nat} {D : va_G} {X : Nat → ClassId} {ad : Nat → Nat} (v : Int32) (a : Int32) (b : Int32) (ω : Mem) : CT l_ yX7_isWithin wsX7_isWithin rm_X7_isWithin sa D (tyX X) 128 ad (mk X ad ω) [.int v, .int a, .int b] (some (.int (f_X7_isWithin v a b ω)) : Option Value) (mk X ad ω) := by
  refine ct_of [(0, .int v), (1, .int a), (2, .int b)] (by decide +kernel) rfl rfl (Nat.le_of_ble_eq_true rfl) rfl ?_
  intro p_ e_ s_ m_ args_ below_ meth_ c_ C hret hlk hin
  have e1 : (some (.int (f_X7_isWithin v a b ω)) : Option Value) = (some (.int (f_X7_isWithin v a b ω)) : Option Value) := rfl
  have e2 : mk X ad ω = mk X ad ω := rfl
  refine g_iload_n C dX7_isWithin_0 rfl 0 rfl ?_
  refine g_iload_n C dX7_isWithin_1 rfl 1 rfl ?_
  refine g_icmp_lt (tgt := 14) C dX7_isWithin_2 (by decide) (fun h1 => ?_) (fun h1 => ?_)
  · refine g_iconst (v := 0) C dX7_isWithin_14 (by decide) ?_
    exact g_zret C hret hlk (nar_b (by decide)).1 (e1.trans (congrArg (fun z => some (Value.int z)) ((if_pos h1).trans rfl))) e2 dX7_isWithin_15
  · refine g_iload_n C dX7_isWithin_5 rfl 0 rfl ?_
    refine g_iload_n C dX7_isWithin_6 rfl 2 rfl ?_
    refine g_icmp_gt (tgt := 14) C dX7_isWithin_7 (by decide) (fun h2 => ?_) (fun h2 => ?_)
    · refine g_iconst (v := 0) C dX7_isWithin_14 (by decide) ?_
      exact g_zret C hret hlk (nar_b (by decide)).1 (e1.trans (congrArg (fun z => some (Value.int z)) ((if_neg h1).trans ((if_pos h2).trans rfl)))) e2 dX7_isWithin_15
    · refine g_iconst (v := 1) C dX7_isWithin_10 (by decide) ?_
      refine g_goto (tgt := 15) C dX7_isWithin_11 (by decide) ?_
      exact g_zret C hret hlk (nar_b (by decide)).1 (e1.trans (congrArg (fun z => some (Value.int z)) ((if_neg h1).trans ((if_neg h2).trans rfl)))) e2 dX7_isWithin_15
theorem z_X7_isWithin {v : Int32} {a : Int32} {b : Int32} {ω : Mem} : bb (f_X7_isWithin v a b ω) = f_X7_isWithin v a b ω := by
  unfold f_X7_isWithin
  repeat' split
  all_goals first | with_reducible exact bb_bb _ | decide
abbrev rm_X7_oneIf : Room := { frames := 0, cells := 0, slots := 0, locals := 0 }
theorem md_X7_oneIf : yX7_oneIf.cls = RX7 ∧ yX7_oneIf.cls ≠ "java/lang/invoke/MethodHandle" ∧ yX7_oneIf.cls ≠ "java/lang/invoke/VarHandle" ∧ (parseMethodDescriptor yX7_oneIf.desc).map (fun d => d.parameters.length) = some 1 := by decide +kernel
def f_X7_oneIf (v : Int32) (ω : Mem) : Int32 := (if v = 0 then 0 else 1)
set_option maxRecDepth 100000 in
set_option maxHeartbeats 4000000 in
theorem c_X7_oneIf {l_ : Launch} {sa : Nat → Nat} {D : va_G} {X : Nat → ClassId} {ad : Nat → Nat} (v : Int32) (ω : Mem) : CT l_ yX7_oneIf wsX7_oneIf rm_X7_oneIf sa D (tyX X) 128 ad (mk X ad ω) [.int v] (some (.int (f_X7_oneIf v ω)) : Option Value) (mk X ad ω) := by
  refine ct_of [(0, .int v)] (by decide +kernel) rfl rfl (Nat.le_of_ble_eq_true rfl) rfl ?_
  intro p_ e_ s_ m_ args_ below_ meth_ c_ C hret hlk hin
  have e1 : (some (.int (f_X7_oneIf v ω)) : Option Value) = (some (.int (f_X7_oneIf v ω)) : Option Value) := rfl
  have e2 : mk X ad ω = mk X ad ω := rfl
  refine g_iload_n C dX7_oneIf_0 rfl 0 rfl ?_
  refine g_if_eq (tgt := 8) C dX7_oneIf_1 (by decide) (fun h1 => ?_) (fun h1 => ?_)
  · refine g_iconst (v := 0) C dX7_oneIf_8 (by decide) ?_
    exact g_iret C hret hlk (e1.trans (congrArg (fun z => some (Value.int z)) ((if_pos h1).trans rfl))) e2 dX7_oneIf_9
  · refine g_iconst (v := 1) C dX7_oneIf_4 (by decide) ?_
    refine g_goto (tgt := 9) C dX7_oneIf_5 (by decide) ?_
    exact g_iret C hret hlk (e1.trans (congrArg (fun z => some (Value.int z)) ((if_neg h1).trans rfl))) e2 dX7_oneIf_9
abbrev rm_X7_elementAt : Room := { frames := 0, cells := 0, slots := 0, locals := 0 }
theorem md_X7_elementAt : yX7_elementAt.cls = RX7 ∧ yX7_elementAt.cls ≠ "java/lang/invoke/MethodHandle" ∧ yX7_elementAt.cls ≠ "java/lang/invoke/VarHandle" ∧ (parseMethodDescriptor yX7_elementAt.desc).map (fun d => d.parameters.length) = some 2 := by decide +kernel
def f_X7_elementAt (n : Nat) (r : Nat) (x : Int32) (ω : Mem) : Int32 := (if x < 0 then 0 else (if (nI (n)) ≤ x then 0 else (ω r x.toNatClampNeg)))
set_option maxRecDepth 100000 in
set_option maxHeartbeats 4000000 in
theorem c_X7_elementAt {l_ : Launch} {sa : Nat → Nat} {D : va_G} {X : Nat → ClassId} {ad : Nat → Nat} (n : Nat) (r : Nat) (x : Int32) (hr : isR r n) (hn : n < 2 ^ 31) (ω : Mem) : CT l_ yX7_elementAt wsX7_elementAt rm_X7_elementAt sa D (tyX X) 128 ad (mk X ad ω) [.ref (ad r), .int x] (some (.int (f_X7_elementAt n r x ω)) : Option Value) (mk X ad ω) := by
  refine ct_of [(0, .ref (ad r)), (1, .int x)] (by decide +kernel) rfl rfl (Nat.le_of_ble_eq_true rfl) rfl ?_
  intro p_ e_ s_ m_ args_ below_ meth_ c_ C hret hlk hin
  have e1 : (some (.int (f_X7_elementAt n r x ω)) : Option Value) = (some (.int (f_X7_elementAt n r x ω)) : Option Value) := rfl
  have e2 : mk X ad ω = mk X ad ω := rfl
  refine g_iload_n C dX7_elementAt_0 rfl 1 rfl ?_
  refine g_if_lt (tgt := 16) C dX7_elementAt_1 (by decide) (fun h1 => ?_) (fun h1 => ?_)
  · refine g_iconst (v := 0) C dX7_elementAt_16 (by decide) ?_
    exact g_iret C hret hlk (e1.trans (congrArg (fun z => some (Value.int z)) ((if_pos h1).trans rfl))) e2 dX7_elementAt_17
  · refine g_iload_n C dX7_elementAt_4 rfl 1 rfl ?_
    refine g_aload_n C dX7_elementAt_5 rfl 0 rfl ?_
    refine g_alen (v := (nI (n))) C 0 (hr).1 (mk_12n (hr).2.1 (hr).2.2) rfl rfl dX7_elementAt_6 ?_
    refine g_icmp_ge (tgt := 16) C dX7_elementAt_7 (by decide) (fun h2 => ?_) (fun h2 => ?_)
    · refine g_iconst (v := 0) C dX7_elementAt_16 (by decide) ?_
      exact g_iret C hret hlk (e1.trans (congrArg (fun z => some (Value.int z)) ((if_neg h1).trans ((if_pos h2).trans rfl)))) e2 dX7_elementAt_17
    · refine g_aload_n C dX7_elementAt_10 rfl 0 rfl ?_
      refine g_iload_n C dX7_elementAt_11 rfl 1 rfl ?_
      refine g_iald C 0 (hr).1 (mk_12n (hr).2.1 (hr).2.2) rfl (vp_in_of2 h1 h2 (nI_toInt (by omega))) rfl dX7_elementAt_12 ?_
      refine g_goto (tgt := 17) C dX7_elementAt_13 (by decide) ?_
      exact g_iret C hret hlk (e1.trans (congrArg (fun z => some (Value.int z)) ((if_neg h1).trans ((if_neg h2).trans rfl)))) e2 dX7_elementAt_17
def f_X7_elementAtT (q : String × String × List Int32) (x : Int32) (ω : Mem) : Int32 := (if x < 0 then 0 else (if (nI (q.2.2.length)) ≤ x then 0 else (q.2.2.getD x.toNatClampNeg 0)))
set_option maxRecDepth 100000 in
set_option maxHeartbeats 4000000 in
theorem c_X7_elementAtT {l_ : Launch} {sa : Nat → Nat} {D : va_G} {X : Nat → ClassId} {ad : Nat → Nat} (k : Nat) (q : String × String × List Int32) (x : Int32) (hsv : svL[k]? = some q) (hn : q.2.2.length < 2 ^ 31) (ω : Mem) : CT l_ yX7_elementAt wsX7_elementAt rm_X7_elementAt sa D (tyX X) 128 ad (mk X ad ω) [.ref (sa k), .int x] (some (.int (f_X7_elementAtT q x ω)) : Option Value) (mk X ad ω) := by
  refine ct_of [(0, .ref (sa k)), (1, .int x)] (by decide +kernel) rfl rfl (Nat.le_of_ble_eq_true rfl) rfl ?_
  intro p_ e_ s_ m_ args_ below_ meth_ c_ C hret hlk hin
  have e1 : (some (.int (f_X7_elementAtT q x ω)) : Option Value) = (some (.int (f_X7_elementAtT q x ω)) : Option Value) := rfl
  have e2 : mk X ad ω = mk X ad ω := rfl
  refine g_iload_n C dX7_elementAt_0 rfl 1 rfl ?_
  refine g_if_lt (tgt := 16) C dX7_elementAt_1 (by decide) (fun h1 => ?_) (fun h1 => ?_)
  · refine g_iconst (v := 0) C dX7_elementAt_16 (by decide) ?_
    exact g_iret C hret hlk (e1.trans (congrArg (fun z => some (Value.int z)) ((if_pos h1).trans rfl))) e2 dX7_elementAt_17
  · refine g_iload_n C dX7_elementAt_4 rfl 1 rfl ?_
    refine g_aload_n C dX7_elementAt_5 rfl 0 rfl ?_
    refine g_tlen C k hsv rfl dX7_elementAt_6 ?_
    refine g_icmp_ge (tgt := 16) C dX7_elementAt_7 (by decide) (fun h2 => ?_) (fun h2 => ?_)
    · refine g_iconst (v := 0) C dX7_elementAt_16 (by decide) ?_
      exact g_iret C hret hlk (e1.trans (congrArg (fun z => some (Value.int z)) ((if_neg h1).trans ((if_pos h2).trans rfl)))) e2 dX7_elementAt_17
    · refine g_aload_n C dX7_elementAt_10 rfl 0 rfl ?_
      refine g_iload_n C dX7_elementAt_11 rfl 1 rfl ?_
      refine g_tald C k hsv (vp_in_of2 h1 h2 (nI_toInt (by omega))) rfl dX7_elementAt_12 ?_
      refine g_goto (tgt := 17) C dX7_elementAt_13 (by decide) ?_
      exact g_iret C hret hlk (e1.trans (congrArg (fun z => some (Value.int z)) ((if_neg h1).trans ((if_neg h2).trans rfl)))) e2 dX7_elementAt_17
abbrev rm_X7_copyRow : Room := { frames := 1, cells := 0, slots := 0, locals := 18 }
theorem md_X7_copyRow : yX7_copyRow.cls = RX7 ∧ yX7_copyRow.cls ≠ "java/lang/invoke/MethodHandle" ∧ yX7_copyRow.cls ≠ "java/lang/invoke/VarHandle" ∧ (parseMethodDescriptor yX7_copyRow.desc).map (fun d => d.parameters.length) = some 2 := by decide +kernel
def f_X7_copyRow (n : Nat) (u : Nat) (r : Nat) (t : Nat) (ω : Mem) : Mem := (va_up ω t (va_cpy (ω r) (ω t) 0 0 (min (n) (u))))
set_option maxRecDepth 100000 in
set_option maxHeartbeats 4000000 in
theorem c_X7_copyRow {l_ : Launch} {sa : Nat → Nat} {D : va_G} {X : Nat → ClassId} {ad : Nat → Nat} (n : Nat) (u : Nat) (r : Nat) (t : Nat) (hr : isR r n) (ht : isR t u) (hn : n < 2 ^ 31) (hu : u < 2 ^ 31) (ω : Mem) : CT l_ yX7_copyRow wsX7_copyRow rm_X7_copyRow sa D (tyX X) 128 ad (mk X ad ω) [.ref (ad r), .ref (ad t)] (none : Option Value) (mk X ad (f_X7_copyRow n u r t ω)) := by
  refine ct_of [(0, .ref (ad r)), (1, .ref (ad t))] (by decide +kernel) rfl rfl (Nat.le_of_ble_eq_true rfl) rfl ?_
  intro p_ e_ s_ m_ args_ below_ meth_ c_ C hret hlk hin
  have e1 : (none : Option Value) = (none : Option Value) := rfl
  have e2 : mk X ad (f_X7_copyRow n u r t ω) = mk X ad (f_X7_copyRow n u r t ω) := rfl
  have A259 : Cond.methodLink RX7 259 arraycopyName ∈ wsX7_copyRow := by decide +kernel
  have Aini : Cond.initialized "java/lang/System" ∈ wsX7_copyRow := by decide +kernel
  have Anat : Cond.native arraycopyName ∈ wsX7_copyRow := by decide +kernel
  have Asta : Cond.static arraycopyName ∈ wsX7_copyRow := by decide +kernel
  have M254a : Cond.methodLink RX7 254 Lib.Math.min.name ∈ wsX7_copyRow := by decide +kernel
  have Mini : Cond.initialized "java/lang/Math" ∈ wsX7_copyRow := by decide +kernel
  have Mminb : Cond.static Lib.Math.min.name ∈ wsX7_copyRow := by decide +kernel
  have Mminc : Cond.code Lib.Math.min.name Lib.Math.min.code 2 (some .int) ∈ wsX7_copyRow := by decide +kernel
  refine g_aload_n C dX7_copyRow_0 rfl 0 rfl ?_
  refine g_iconst (v := 0) C dX7_copyRow_1 (by decide) ?_
  refine g_aload_n C dX7_copyRow_2 rfl 1 rfl ?_
  refine g_iconst (v := 0) C dX7_copyRow_3 (by decide) ?_
  refine g_aload_n C dX7_copyRow_4 rfl 0 rfl ?_
  refine g_alen (v := (nI (n))) C 0 (hr).1 (mk_12n (hr).2.1 (hr).2.2) rfl rfl dX7_copyRow_5 ?_
  refine g_aload_n C dX7_copyRow_6 rfl 1 rfl ?_
  refine g_alen (v := (nI (u))) C 0 (ht).1 (mk_12n (ht).2.1 (ht).2.2) rfl rfl dX7_copyRow_7 ?_
  refine g_mmin (v := (nI (min (n) (u)))) C M254a Mminb Mini Mminc (Nat.le_of_ble_eq_true rfl) (Nat.le_of_ble_eq_true rfl) (Nat.zero_le _) (Nat.zero_le _) dX7_copyRow_8 (nI_min (a := n) (b := u) (by omega) (by omega)) ?_
  refine g_copy (zs := 0) (zd := 0) (zz := min (n) (u)) C 0 A259 Anat Asta Aini (hr).1 (mk_12n (hr).2.1 (hr).2.2) (ht).1 (mk_12n (ht).2.1 (ht).2.2) rfl rfl (by decide) (by decide) (nI_pos (n := min (n) (u)) (by omega)) (by decide) (by decide) (nI_clamp (n := min (n) (u)) (by omega)) (by omega) (by omega) (Nat.le_of_ble_eq_true rfl) (Nat.le_of_ble_eq_true rfl) dX7_copyRow_11 ?_
  refine gv_eqG (mk_row (ht).2.1 (ht).2.2) ?_
  exact g_vret C hret hlk e1 (e2.trans (congrArg (mk X ad) rfl)) dX7_copyRow_14
