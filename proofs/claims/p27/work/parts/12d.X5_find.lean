abbrev rm_X5_find : Room := { frames := 0, cells := 0, slots := 0, locals := 0 }
theorem md_X5_find : yX5_find.cls = RX5 ∧ yX5_find.cls ≠ "java/lang/invoke/MethodHandle" ∧ yX5_find.cls ≠ "java/lang/invoke/VarHandle" ∧ (parseMethodDescriptor yX5_find.desc).map (fun d => d.parameters.length) = some 1 := by decide +kernel
def f_X5_find (B : Nat) (k : Nat) (ω : Mem) : Int32 := 0
set_option maxRecDepth 100000 in
set_option maxHeartbeats 4000000 in
theorem c_X5_find {l_ : Launch} {sa : Nat → Nat} {D : va_G} {X : Nat → ClassId} {ad : Nat → Nat} (B : Nat) (k : Nat) (hB : isS B) (hk : k < 4) (ω : Mem)  : CT l_ yX5_find wsX5_find rm_X5_find sa D (tyX X) 120 ad (mk X ad ω) [.ref (ad B), .int (nI (k))] (some (.ref (ad (B + 4 + k))) : Option Value) (mk X ad ω) := by
  refine ct_of [(0, .ref (ad B)), (1, .int (nI (k)))] (by decide +kernel) rfl rfl (Nat.le_of_ble_eq_true rfl) rfl ?_
  intro p_ e_ s_ m_ args_ below_ meth_ c_ C hret hlk hin
  have e1 : (some (.ref (ad (B + 4 + k))) : Option Value) = (some (.ref (ad (B + 4 + k))) : Option Value) := rfl
  have e2 : mk X ad ω = mk X ad ω := rfl
  have iX5 : ∀ w ∈ u_ws RX5 TX5 8, w ∈ wsX5_find := by decide +kernel
  have L22 : Cond.fieldLink RX5 22 (TX5 1).1 (TX5 1).2.1 (TX5 1).2.2.1 ∈ wsX5_find := by decide +kernel
  refine g_iload_n C dX5_find_0 rfl 1 rfl ?_
  refine g_if_lt (tgt := 22) C dX5_find_1 (by decide) (fun z => absurd z (nI_pos (n := k) (by omega))) (fun _ => ?_)
  refine g_iload_n C dX5_find_4 rfl 1 rfl ?_
  refine g_aload_n C dX5_find_5 rfl 0 rfl ?_
  refine g_get (v := .ref (ad (B + 3))) C iX5 (bS0 hB) (mk_1 (kS0 hB)) rfl 1 (by decide) L22 rfl dX5_find_6 ?_
  refine g_alen (v := 4) C 2 (bS3 hB) (mk_3 (kS3 hB)) rfl rfl dX5_find_9 ?_
  refine g_icmp_ge (tgt := 22) C dX5_find_10 (by decide) (fun z => absurd z (fun z => absurd ((nI_leI (a := 4) (b := k) (by omega) (by omega)).mp z) (by omega))) (fun _ => ?_)
  refine g_aload_n C dX5_find_13 rfl 0 rfl ?_
  refine g_get (v := .ref (ad (B + 3))) C iX5 (bS0 hB) (mk_1 (kS0 hB)) rfl 1 (by decide) L22 rfl dX5_find_14 ?_
  refine g_iload_n C dX5_find_17 rfl 1 rfl ?_
  refine g_aldq (k := k) (v := .ref (ad ((B + 4) + k))) C 2 (bS3 hB) (mk_3 (kS3 hB)) rfl (vp_in_nI (n := k) (by omega) (by decide)) (nI_clamp (n := k) (by omega)) rfl dX5_find_18 ?_
  refine g_goto (tgt := 23) C dX5_find_19 (by decide) ?_
  exact g_aret C hret hlk (Or.inr ⟨_, rfl⟩) e1 e2 dX5_find_23
def f_X5_findB (B : Nat) (x : Int32) (ω : Mem) : Int32 := (if x < 0 then 0 else 0)
set_option maxRecDepth 100000 in
set_option maxHeartbeats 4000000 in
theorem c_X5_findB {l_ : Launch} {sa : Nat → Nat} {D : va_G} {X : Nat → ClassId} {ad : Nat → Nat} (B : Nat) (x : Int32) (hB : isS B) (hbad : x < 0 ∨ 4 ≤ x) (ω : Mem)  : CT l_ yX5_find wsX5_find rm_X5_find sa D (tyX X) 120 ad (mk X ad ω) [.ref (ad B), .int x] (some .null : Option Value) (mk X ad ω) := by
  refine ct_of [(0, .ref (ad B)), (1, .int x)] (by decide +kernel) rfl rfl (Nat.le_of_ble_eq_true rfl) rfl ?_
  intro p_ e_ s_ m_ args_ below_ meth_ c_ C hret hlk hin
  have e1 : (some .null : Option Value) = (some .null : Option Value) := rfl
  have e2 : mk X ad ω = mk X ad ω := rfl
  have iX5 : ∀ w ∈ u_ws RX5 TX5 8, w ∈ wsX5_find := by decide +kernel
  have L22 : Cond.fieldLink RX5 22 (TX5 1).1 (TX5 1).2.1 (TX5 1).2.2.1 ∈ wsX5_find := by decide +kernel
  refine g_iload_n C dX5_find_0 rfl 1 rfl ?_
  refine g_if_lt (tgt := 22) C dX5_find_1 (by decide) (fun h1 => ?_) (fun h1 => ?_)
  · refine g_null C dX5_find_22 ?_
    exact g_aret C hret hlk (Or.inl rfl) e1 e2 dX5_find_23
  · refine g_iload_n C dX5_find_4 rfl 1 rfl ?_
    refine g_aload_n C dX5_find_5 rfl 0 rfl ?_
    refine g_get (v := .ref (ad (B + 3))) C iX5 (bS0 hB) (mk_1 (kS0 hB)) rfl 1 (by decide) L22 rfl dX5_find_6 ?_
    refine g_alen (v := 4) C 2 (bS3 hB) (mk_3 (kS3 hB)) rfl rfl dX5_find_9 ?_
    refine g_icmp_ge (tgt := 22) C dX5_find_10 (by decide) (fun _ => ?_) (fun z => absurd (hbad.resolve_left h1) z)
    refine g_null C dX5_find_22 ?_
    exact g_aret C hret hlk (Or.inl rfl) e1 e2 dX5_find_23
abbrev rm_X1_dropOldest : Room := { frames := 0, cells := 0, slots := 0, locals := 0 }
theorem md_X1_dropOldest : yX1_dropOldest.cls = RX1 ∧ yX1_dropOldest.cls ≠ "java/lang/invoke/MethodHandle" ∧ yX1_dropOldest.cls ≠ "java/lang/invoke/VarHandle" ∧ (parseMethodDescriptor yX1_dropOldest.desc).map (fun d => d.parameters.length) = some 0 := by decide +kernel
def f_X1_dropOldest  (ω : Mem) : Mem := (st (st (st (st (st ω 53 0 (nI ((ω 53 1).toNatClampNeg))) 53 1 (nI ((st ω 53 0 (nI ((ω 53 1).toNatClampNeg))) 53 2).toNatClampNeg)) 53 2 (nI ((st (st ω 53 0 (nI ((ω 53 1).toNatClampNeg))) 53 1 (nI ((st ω 53 0 (nI ((ω 53 1).toNatClampNeg))) 53 2).toNatClampNeg)) 53 3).toNatClampNeg)) 53 3 (nI ((ω 53 0).toNatClampNeg))) 52 1 3)
set_option maxRecDepth 100000 in
set_option maxHeartbeats 4000000 in
theorem c_X1_dropOldest {l_ : Launch} {sa : Nat → Nat} {D : va_G} {X : Nat → ClassId} {ad : Nat → Nat}  (ω : Mem) (hst : hstP ω) : CT l_ yX1_dropOldest wsX1_dropOldest rm_X1_dropOldest sa D (tyX X) 120 ad (mk X ad ω) [.ref (ad 52)] (none : Option Value) (mk X ad (f_X1_dropOldest ω)) := by
  refine ct_of [(0, .ref (ad 52))] (by decide +kernel) rfl rfl (Nat.le_of_ble_eq_true rfl) rfl ?_
  intro p_ e_ s_ m_ args_ below_ meth_ c_ C hret hlk hin
  have e1 : (none : Option Value) = (none : Option Value) := rfl
  have e2 : mk X ad (f_X1_dropOldest ω) = mk X ad (f_X1_dropOldest ω) := rfl
  have iX1 : ∀ w ∈ u_ws RX1 TX1 2, w ∈ wsX1_dropOldest := by decide +kernel
  have L11 : Cond.fieldLink RX1 11 (TX1 0).1 (TX1 0).2.1 (TX1 0).2.2.1 ∈ wsX1_dropOldest := by decide +kernel
  have L16 : Cond.fieldLink RX1 16 (TX1 1).1 (TX1 1).2.1 (TX1 1).2.2.1 ∈ wsX1_dropOldest := by decide +kernel
  refine g_aload_n C dX1_dropOldest_0 rfl 0 rfl ?_
  refine g_get (v := .ref (ad 53)) C iX1 (by decide) (mk_7 (by decide)) rfl 0 (by decide) L11 rfl dX1_dropOldest_1 ?_
  refine g_iconst (v := 0) C dX1_dropOldest_4 (by decide) ?_
  refine g_aldq (k := 0) (v := .ref (ad ((ω 53 0).toNatClampNeg))) C 3 (by decide) (mk_8 (by decide)) rfl (by unfold vp_in; decide) rfl rfl dX1_dropOldest_5 ?_
  refine g_astore_n (lv' := [(1, .ref (ad ((ω 53 0).toNatClampNeg))), (0, .ref (ad 52))]) C dX1_dropOldest_6 rfl (by decide) rfl ?_
  refine g_iconst (v := 1) C dX1_dropOldest_7 (by decide) ?_
  refine g_istore_n (lv' := [(2, .int 1), (1, .ref (ad ((ω 53 0).toNatClampNeg))), (0, .ref (ad 52))]) C dX1_dropOldest_8 rfl (by decide) rfl ?_
  refine g_iload_n C dX1_dropOldest_9 rfl 0 rfl ?_
  refine g_iconst (v := 4) C dX1_dropOldest_10 (by decide) ?_
  refine g_icmp_ge (tgt := 34) C dX1_dropOldest_11 (by decide) (fun z => absurd z (by decide)) (fun _ => ?_)
  refine g_aload_n C dX1_dropOldest_14 rfl 2 rfl ?_
  refine g_get (v := .ref (ad 53)) C iX1 (by decide) (mk_7 (by decide)) rfl 0 (by decide) L11 rfl dX1_dropOldest_15 ?_
  refine g_iload_n C dX1_dropOldest_18 rfl 0 rfl ?_
  refine g_iconst (v := 1) C dX1_dropOldest_19 (by decide) ?_
  refine g_isub (v := 0) C dX1_dropOldest_20 (by decide) ?_
  refine g_aload_n C dX1_dropOldest_21 rfl 2 rfl ?_
  refine g_get (v := .ref (ad 53)) C iX1 (by decide) (mk_7 (by decide)) rfl 0 (by decide) L11 rfl dX1_dropOldest_22 ?_
  refine g_iload_n C dX1_dropOldest_25 rfl 0 rfl ?_
  refine g_aldq (k := 1) (v := .ref (ad ((ω 53 1).toNatClampNeg))) C 3 (by decide) (mk_8 (by decide)) rfl (by unfold vp_in; decide) rfl rfl dX1_dropOldest_26 ?_
  refine g_astq (k := 0) C 3 (by decide) (mk_8 (by decide)) rfl (bS0 (hst (1) (by decide))) (mk_1 (kS0 (hst (1) (by decide)))) rfl (by unfold vp_in; decide) rfl dX1_dropOldest_27 ?_
  refine gv_eqG (mk_sts (by decide) (isS_sm (hst (1) (by decide)))) ?_
  refine g_iinc (k := 0) (v := 2) (lv' := [(2, .int 2), (1, .ref (ad ((ω 53 0).toNatClampNeg))), (0, .ref (ad 52))]) C dX1_dropOldest_28 rfl (by decide) (by decide) rfl ?_
  refine g_goto (tgt := 9) C dX1_dropOldest_31 (by decide) ?_
  refine g_iload_n C dX1_dropOldest_9 rfl 0 rfl ?_
  refine g_iconst (v := 4) C dX1_dropOldest_10 (by decide) ?_
  refine g_icmp_ge (tgt := 34) C dX1_dropOldest_11 (by decide) (fun z => absurd z (by decide)) (fun _ => ?_)
  refine g_aload_n C dX1_dropOldest_14 rfl 2 rfl ?_
  refine g_get (v := .ref (ad 53)) C iX1 (by decide) (mk_7 (by decide)) rfl 0 (by decide) L11 rfl dX1_dropOldest_15 ?_
  refine g_iload_n C dX1_dropOldest_18 rfl 0 rfl ?_
  refine g_iconst (v := 1) C dX1_dropOldest_19 (by decide) ?_
  refine g_isub (v := 1) C dX1_dropOldest_20 (by decide) ?_
  refine g_aload_n C dX1_dropOldest_21 rfl 2 rfl ?_
  refine g_get (v := .ref (ad 53)) C iX1 (by decide) (mk_7 (by decide)) rfl 0 (by decide) L11 rfl dX1_dropOldest_22 ?_
  refine g_iload_n C dX1_dropOldest_25 rfl 0 rfl ?_
  refine g_aldq (k := 2) (v := .ref (ad ((st ω 53 0 (nI ((ω 53 1).toNatClampNeg))) 53 2).toNatClampNeg)) C 3 (by decide) (mk_8 (by decide)) rfl (by unfold vp_in; decide) rfl rfl dX1_dropOldest_26 ?_
  refine g_astq (k := 1) C 3 (by decide) (mk_8 (by decide)) rfl (bS0 ((hstP_st hst (hst (1) (by decide))) (2) (by decide))) (mk_1 (kS0 ((hstP_st hst (hst (1) (by decide))) (2) (by decide)))) rfl (by unfold vp_in; decide) rfl dX1_dropOldest_27 ?_
  refine gv_eqG (mk_sts (by decide) (isS_sm ((hstP_st hst (hst (1) (by decide))) (2) (by decide)))) ?_
  refine g_iinc (k := 0) (v := 3) (lv' := [(2, .int 3), (1, .ref (ad ((ω 53 0).toNatClampNeg))), (0, .ref (ad 52))]) C dX1_dropOldest_28 rfl (by decide) (by decide) rfl ?_
  refine g_goto (tgt := 9) C dX1_dropOldest_31 (by decide) ?_
  refine g_iload_n C dX1_dropOldest_9 rfl 0 rfl ?_
  refine g_iconst (v := 4) C dX1_dropOldest_10 (by decide) ?_
  refine g_icmp_ge (tgt := 34) C dX1_dropOldest_11 (by decide) (fun z => absurd z (by decide)) (fun _ => ?_)
  refine g_aload_n C dX1_dropOldest_14 rfl 2 rfl ?_
  refine g_get (v := .ref (ad 53)) C iX1 (by decide) (mk_7 (by decide)) rfl 0 (by decide) L11 rfl dX1_dropOldest_15 ?_
  refine g_iload_n C dX1_dropOldest_18 rfl 0 rfl ?_
  refine g_iconst (v := 1) C dX1_dropOldest_19 (by decide) ?_
  refine g_isub (v := 2) C dX1_dropOldest_20 (by decide) ?_
  refine g_aload_n C dX1_dropOldest_21 rfl 2 rfl ?_
  refine g_get (v := .ref (ad 53)) C iX1 (by decide) (mk_7 (by decide)) rfl 0 (by decide) L11 rfl dX1_dropOldest_22 ?_
  refine g_iload_n C dX1_dropOldest_25 rfl 0 rfl ?_
  refine g_aldq (k := 3) (v := .ref (ad ((st (st ω 53 0 (nI ((ω 53 1).toNatClampNeg))) 53 1 (nI ((st ω 53 0 (nI ((ω 53 1).toNatClampNeg))) 53 2).toNatClampNeg)) 53 3).toNatClampNeg)) C 3 (by decide) (mk_8 (by decide)) rfl (by unfold vp_in; decide) rfl rfl dX1_dropOldest_26 ?_
  refine g_astq (k := 2) C 3 (by decide) (mk_8 (by decide)) rfl (bS0 ((hstP_st (hstP_st hst (hst (1) (by decide))) ((hstP_st hst (hst (1) (by decide))) (2) (by decide))) (3) (by decide))) (mk_1 (kS0 ((hstP_st (hstP_st hst (hst (1) (by decide))) ((hstP_st hst (hst (1) (by decide))) (2) (by decide))) (3) (by decide)))) rfl (by unfold vp_in; decide) rfl dX1_dropOldest_27 ?_
  refine gv_eqG (mk_sts (by decide) (isS_sm ((hstP_st (hstP_st hst (hst (1) (by decide))) ((hstP_st hst (hst (1) (by decide))) (2) (by decide))) (3) (by decide)))) ?_
  refine g_iinc (k := 0) (v := 4) (lv' := [(2, .int 4), (1, .ref (ad ((ω 53 0).toNatClampNeg))), (0, .ref (ad 52))]) C dX1_dropOldest_28 rfl (by decide) (by decide) rfl ?_
  refine g_goto (tgt := 9) C dX1_dropOldest_31 (by decide) ?_
  refine g_iload_n C dX1_dropOldest_9 rfl 0 rfl ?_
  refine g_iconst (v := 4) C dX1_dropOldest_10 (by decide) ?_
  refine g_icmp_ge (tgt := 34) C dX1_dropOldest_11 (by decide) (fun _ => ?_) (fun z => absurd z (by decide))
  refine g_aload_n C dX1_dropOldest_34 rfl 2 rfl ?_
  refine g_get (v := .ref (ad 53)) C iX1 (by decide) (mk_7 (by decide)) rfl 0 (by decide) L11 rfl dX1_dropOldest_35 ?_
  refine g_iconst (v := 3) C dX1_dropOldest_38 (by decide) ?_
  refine g_aload_n C dX1_dropOldest_39 rfl 1 rfl ?_
  refine g_astq (k := 3) C 3 (by decide) (mk_8 (by decide)) rfl (bS0 (hst (0) (by decide))) (mk_1 (kS0 (hst (0) (by decide)))) rfl (by unfold vp_in; decide) rfl dX1_dropOldest_40 ?_
  refine gv_eqG (mk_sts (by decide) (isS_sm (hst (0) (by decide)))) ?_
  refine g_aload_n C dX1_dropOldest_41 rfl 2 rfl ?_
  refine g_iconst (v := 3) C dX1_dropOldest_42 (by decide) ?_
  refine g_put C iX1 tyX1 tyX1_ok nmX1 (by decide) (mk_7 (by decide)) rfl 1 (by decide) L16 rfl rfl rfl (Nat.le_of_ble_eq_true rfl) dX1_dropOldest_43 ?_
  refine gv_eqG (mkp_7_1 (by decide)) ?_
  exact g_vret C hret hlk e1 (e2.trans (congrArg (mk X ad) rfl)) dX1_dropOldest_46
theorem hst_drop {ω : Mem} (hst : hstP ω) : hstP (f_X1_dropOldest ω) := (hstP_ne (hstP_st (hstP_st (hstP_st (hstP_st hst (hst (1) (by decide))) ((hstP_st hst (hst (1) (by decide))) (2) (by decide))) ((hstP_st (hstP_st hst (hst (1) (by decide))) ((hstP_st hst (hst (1) (by decide))) (2) (by decide))) (3) (by decide))) (hst (0) (by decide))) (by decide))
abbrev rm_X1_record : Room := { frames := 4, cells := 0, slots := 0, locals := 82 }
theorem md_X1_record : yX1_record.cls = RX1 ∧ yX1_record.cls ≠ "java/lang/invoke/MethodHandle" ∧ yX1_record.cls ≠ "java/lang/invoke/VarHandle" ∧ (parseMethodDescriptor yX1_record.desc).map (fun d => d.parameters.length) = some 1 := by decide +kernel
def f_X1_record (B : Nat) (ω : Mem) : Mem := (if (ω 52 1) < 4 then (if (ω 52 1) < 0 then ω else (if 4 ≤ (ω 52 1) then ω else (st (f_X5_copyFrom ((ω 53 (ω 52 1).toNatClampNeg).toNatClampNeg) B ω) 52 1 (((f_X5_copyFrom ((ω 53 (ω 52 1).toNatClampNeg).toNatClampNeg) B ω) 52 1) + 1)))) else (if ((f_X1_dropOldest ω) 52 1) < 0 then (f_X1_dropOldest ω) else (if 4 ≤ ((f_X1_dropOldest ω) 52 1) then (f_X1_dropOldest ω) else (st (f_X5_copyFrom ((f_X1_dropOldest ω) 53 ((f_X1_dropOldest ω) 52 1).toNatClampNeg).toNatClampNeg B (f_X1_dropOldest ω)) 52 1 (((f_X5_copyFrom ((f_X1_dropOldest ω) 53 ((f_X1_dropOldest ω) 52 1).toNatClampNeg).toNatClampNeg B (f_X1_dropOldest ω)) 52 1) + 1)))))
set_option maxRecDepth 100000 in
set_option maxHeartbeats 4000000 in
theorem c_X1_record {l_ : Launch} {sa : Nat → Nat} {D : va_G} {X : Nat → ClassId} {ad : Nat → Nat} (B : Nat) (hB : isS B) (ω : Mem) (hst : hstP ω) : CT l_ yX1_record wsX1_record rm_X1_record sa D (tyX X) 120 ad (mk X ad ω) [.ref (ad 52), .ref (ad B)] (none : Option Value) (mk X ad (f_X1_record B ω)) := by
  refine ct_of [(0, .ref (ad 52)), (1, .ref (ad B))] (by decide +kernel) rfl rfl (Nat.le_of_ble_eq_true rfl) rfl ?_
  intro p_ e_ s_ m_ args_ below_ meth_ c_ C hret hlk hin
  have e1 : (none : Option Value) = (none : Option Value) := rfl
  have e2 : mk X ad (f_X1_record B ω) = mk X ad (f_X1_record B ω) := rfl
  have iX1 : ∀ w ∈ u_ws RX1 TX1 2, w ∈ wsX1_record := by decide +kernel
  have L11 : Cond.fieldLink RX1 11 (TX1 0).1 (TX1 0).2.1 (TX1 0).2.2.1 ∈ wsX1_record := by decide +kernel
  have L16 : Cond.fieldLink RX1 16 (TX1 1).1 (TX1 1).2.1 (TX1 1).2.2.1 ∈ wsX1_record := by decide +kernel
  refine g_aload_n C dX1_record_0 rfl 0 rfl ?_
  refine g_get (v := .int (ω 52 1)) C iX1 (by decide) (mk_7 (by decide)) rfl 1 (by decide) L16 rfl dX1_record_1 ?_
  refine g_iconst (v := 4) C dX1_record_4 (by decide) ?_
  refine g_icmp_lt (tgt := 12) C dX1_record_5 (by decide) (fun h1 => ?_) (fun h1 => ?_)
  · refine g_aload_n C dX1_record_12 rfl 0 rfl ?_
    refine g_get (v := .int (ω 52 1)) C iX1 (by decide) (mk_7 (by decide)) rfl 1 (by decide) L16 rfl dX1_record_13 ?_
    refine g_if_lt (tgt := 50) C dX1_record_16 (by decide) (fun h2 => ?_) (fun h2 => ?_)
    · exact g_vret C hret hlk e1 (e2.trans (congrArg (mk X ad) ((if_pos h1).trans ((if_pos h2).trans rfl)))) dX1_record_50
    · refine g_aload_n C dX1_record_19 rfl 0 rfl ?_
      refine g_get (v := .int (ω 52 1)) C iX1 (by decide) (mk_7 (by decide)) rfl 1 (by decide) L16 rfl dX1_record_20 ?_
      refine g_iconst (v := 4) C dX1_record_23 (by decide) ?_
      refine g_icmp_ge (tgt := 50) C dX1_record_24 (by decide) (fun h3 => ?_) (fun h3 => ?_)
      · exact g_vret C hret hlk e1 (e2.trans (congrArg (mk X ad) ((if_pos h1).trans ((if_neg h2).trans ((if_pos h3).trans rfl))))) dX1_record_50
      · refine g_aload_n C dX1_record_27 rfl 0 rfl ?_
        refine g_get (v := .ref (ad 53)) C iX1 (by decide) (mk_7 (by decide)) rfl 0 (by decide) L11 rfl dX1_record_28 ?_
        refine g_aload_n C dX1_record_31 rfl 0 rfl ?_
        refine g_get (v := .int (ω 52 1)) C iX1 (by decide) (mk_7 (by decide)) rfl 1 (by decide) L16 rfl dX1_record_32 ?_
        refine g_aldq (k := (ω 52 1).toNatClampNeg) (v := .ref (ad ((ω 53 (ω 52 1).toNatClampNeg).toNatClampNeg))) C 3 (by decide) (mk_8 (by decide)) rfl (vp_in_of2 h2 h3 rfl) rfl rfl dX1_record_35 ?_
        refine g_aload_n C dX1_record_36 rfl 1 rfl ?_
        refine g_callV (rest := []) (st1 := []) C (c_X5_copyFrom ((ω 53 (ω 52 1).toNatClampNeg).toNatClampNeg) B (hst ((ω 52 1).toNatClampNeg) (vp_in_lt (vp_in_of2 h2 h3 rfl) (by decide))) hB ω) (cwV 1 C.hts gX1_record_X5_copyFrom rfl rfl rfl md_X5_copyFrom ⟨Nat.le_of_ble_eq_true rfl, Nat.le_of_ble_eq_true rfl⟩) (bS0 (hst ((ω 52 1).toNatClampNeg) (vp_in_lt (vp_in_of2 h2 h3 rfl) (by decide)))) (mk_1 (kS0 (hst ((ω 52 1).toNatClampNeg) (vp_in_lt (vp_in_of2 h2 h3 rfl) (by decide))))) rfl rfl rfl rfl rfl (Nat.le_of_ble_eq_true rfl) dX1_record_37 (Nat.zero_le _) (Nat.zero_le _) ?_
        refine g_aload_n C dX1_record_40 rfl 0 rfl ?_
        refine g_dup C dX1_record_41 rfl ?_
        refine g_get (v := .int ((f_X5_copyFrom ((ω 53 (ω 52 1).toNatClampNeg).toNatClampNeg) B ω) 52 1)) C iX1 (by decide) (mk_7 (by decide)) rfl 1 (by decide) L16 rfl dX1_record_42 ?_
        refine g_iconst (v := 1) C dX1_record_45 (by decide) ?_
        refine g_iadd (v := (((f_X5_copyFrom ((ω 53 (ω 52 1).toNatClampNeg).toNatClampNeg) B ω) 52 1) + 1)) C dX1_record_46 rfl ?_
        refine g_put C iX1 tyX1 tyX1_ok nmX1 (by decide) (mk_7 (by decide)) rfl 1 (by decide) L16 rfl rfl rfl (Nat.le_of_ble_eq_true rfl) dX1_record_47 ?_
        refine gv_eqG (mkp_7_1 (by decide)) ?_
        exact g_vret C hret hlk e1 (e2.trans (congrArg (mk X ad) ((if_pos h1).trans ((if_neg h2).trans ((if_neg h3).trans rfl))))) dX1_record_50
  · refine g_aload_n C dX1_record_8 rfl 0 rfl ?_
    refine g_callV (rest := []) (st1 := []) C (c_X1_dropOldest ω hst) (cwV 0 C.hts gX1_record_X1_dropOldest rfl rfl rfl md_X1_dropOldest ⟨Nat.le_of_ble_eq_true rfl, Nat.le_of_ble_eq_true rfl⟩) (by decide) (mk_7 (by decide)) rfl rfl rfl rfl rfl (Nat.le_of_ble_eq_true rfl) dX1_record_9 (Nat.zero_le _) (Nat.zero_le _) ?_
    refine g_aload_n C dX1_record_12 rfl 0 rfl ?_
    refine g_get (v := .int ((f_X1_dropOldest ω) 52 1)) C iX1 (by decide) (mk_7 (by decide)) rfl 1 (by decide) L16 rfl dX1_record_13 ?_
    refine g_if_lt (tgt := 50) C dX1_record_16 (by decide) (fun h4 => ?_) (fun h4 => ?_)
    · exact g_vret C hret hlk e1 (e2.trans (congrArg (mk X ad) ((if_neg h1).trans ((if_pos h4).trans rfl)))) dX1_record_50
    · refine g_aload_n C dX1_record_19 rfl 0 rfl ?_
      refine g_get (v := .int ((f_X1_dropOldest ω) 52 1)) C iX1 (by decide) (mk_7 (by decide)) rfl 1 (by decide) L16 rfl dX1_record_20 ?_
      refine g_iconst (v := 4) C dX1_record_23 (by decide) ?_
      refine g_icmp_ge (tgt := 50) C dX1_record_24 (by decide) (fun h5 => ?_) (fun h5 => ?_)
      · exact g_vret C hret hlk e1 (e2.trans (congrArg (mk X ad) ((if_neg h1).trans ((if_neg h4).trans ((if_pos h5).trans rfl))))) dX1_record_50
      · refine g_aload_n C dX1_record_27 rfl 0 rfl ?_
        refine g_get (v := .ref (ad 53)) C iX1 (by decide) (mk_7 (by decide)) rfl 0 (by decide) L11 rfl dX1_record_28 ?_
        refine g_aload_n C dX1_record_31 rfl 0 rfl ?_
        refine g_get (v := .int ((f_X1_dropOldest ω) 52 1)) C iX1 (by decide) (mk_7 (by decide)) rfl 1 (by decide) L16 rfl dX1_record_32 ?_
        refine g_aldq (k := ((f_X1_dropOldest ω) 52 1).toNatClampNeg) (v := .ref (ad ((f_X1_dropOldest ω) 53 ((f_X1_dropOldest ω) 52 1).toNatClampNeg).toNatClampNeg)) C 3 (by decide) (mk_8 (by decide)) rfl (vp_in_of2 h4 h5 rfl) rfl rfl dX1_record_35 ?_
        refine g_aload_n C dX1_record_36 rfl 1 rfl ?_
        refine g_callV (rest := []) (st1 := []) C (c_X5_copyFrom ((f_X1_dropOldest ω) 53 ((f_X1_dropOldest ω) 52 1).toNatClampNeg).toNatClampNeg B ((hst_drop hst) (((f_X1_dropOldest ω) 52 1).toNatClampNeg) (vp_in_lt (vp_in_of2 h4 h5 rfl) (by decide))) hB (f_X1_dropOldest ω)) (cwV 1 C.hts gX1_record_X5_copyFrom rfl rfl rfl md_X5_copyFrom ⟨Nat.le_of_ble_eq_true rfl, Nat.le_of_ble_eq_true rfl⟩) (bS0 ((hst_drop hst) (((f_X1_dropOldest ω) 52 1).toNatClampNeg) (vp_in_lt (vp_in_of2 h4 h5 rfl) (by decide)))) (mk_1 (kS0 ((hst_drop hst) (((f_X1_dropOldest ω) 52 1).toNatClampNeg) (vp_in_lt (vp_in_of2 h4 h5 rfl) (by decide))))) rfl rfl rfl rfl rfl (Nat.le_of_ble_eq_true rfl) dX1_record_37 (Nat.zero_le _) (Nat.zero_le _) ?_
        refine g_aload_n C dX1_record_40 rfl 0 rfl ?_
        refine g_dup C dX1_record_41 rfl ?_
        refine g_get (v := .int ((f_X5_copyFrom ((f_X1_dropOldest ω) 53 ((f_X1_dropOldest ω) 52 1).toNatClampNeg).toNatClampNeg B (f_X1_dropOldest ω)) 52 1)) C iX1 (by decide) (mk_7 (by decide)) rfl 1 (by decide) L16 rfl dX1_record_42 ?_
        refine g_iconst (v := 1) C dX1_record_45 (by decide) ?_
        refine g_iadd (v := (((f_X5_copyFrom ((f_X1_dropOldest ω) 53 ((f_X1_dropOldest ω) 52 1).toNatClampNeg).toNatClampNeg B (f_X1_dropOldest ω)) 52 1) + 1)) C dX1_record_46 rfl ?_
        refine g_put C iX1 tyX1 tyX1_ok nmX1 (by decide) (mk_7 (by decide)) rfl 1 (by decide) L16 rfl rfl rfl (Nat.le_of_ble_eq_true rfl) dX1_record_47 ?_
        refine gv_eqG (mkp_7_1 (by decide)) ?_
        exact g_vret C hret hlk e1 (e2.trans (congrArg (mk X ad) ((if_neg h1).trans ((if_neg h4).trans ((if_neg h5).trans rfl))))) dX1_record_50
abbrev rm_X1_takeBack : Room := { frames := 4, cells := 0, slots := 0, locals := 82 }
theorem md_X1_takeBack : yX1_takeBack.cls = RX1 ∧ yX1_takeBack.cls ≠ "java/lang/invoke/MethodHandle" ∧ yX1_takeBack.cls ≠ "java/lang/invoke/VarHandle" ∧ (parseMethodDescriptor yX1_takeBack.desc).map (fun d => d.parameters.length) = some 1 := by decide +kernel
def f_X1_takeBack (B : Nat) (ω : Mem) : Int32 × Mem := (if (ω 52 1) ≤ 0 then (0, ω) else (if (ω 52 1) ≤ 4 then (1, (f_X5_copyFrom B ((st ω 52 1 ((ω 52 1) - 1)) 53 ((st ω 52 1 ((ω 52 1) - 1)) 52 1).toNatClampNeg).toNatClampNeg (st ω 52 1 ((ω 52 1) - 1)))) else (0, ω)))
set_option maxRecDepth 100000 in
set_option maxHeartbeats 4000000 in
theorem c_X1_takeBack {l_ : Launch} {sa : Nat → Nat} {D : va_G} {X : Nat → ClassId} {ad : Nat → Nat} (B : Nat) (hB : isS B) (ω : Mem) (hst : hstP ω) : CT l_ yX1_takeBack wsX1_takeBack rm_X1_takeBack sa D (tyX X) 120 ad (mk X ad ω) [.ref (ad 52), .ref (ad B)] (some (.int (f_X1_takeBack B ω).1) : Option Value) (mk X ad (f_X1_takeBack B ω).2) := by
  refine ct_of [(0, .ref (ad 52)), (1, .ref (ad B))] (by decide +kernel) rfl rfl (Nat.le_of_ble_eq_true rfl) rfl ?_
  intro p_ e_ s_ m_ args_ below_ meth_ c_ C hret hlk hin
  have e1 : (some (.int (f_X1_takeBack B ω).1) : Option Value) = (some (.int (f_X1_takeBack B ω).1) : Option Value) := rfl
  have e2 : mk X ad (f_X1_takeBack B ω).2 = mk X ad (f_X1_takeBack B ω).2 := rfl
  have iX1 : ∀ w ∈ u_ws RX1 TX1 2, w ∈ wsX1_takeBack := by decide +kernel
  have L11 : Cond.fieldLink RX1 11 (TX1 0).1 (TX1 0).2.1 (TX1 0).2.2.1 ∈ wsX1_takeBack := by decide +kernel
  have L16 : Cond.fieldLink RX1 16 (TX1 1).1 (TX1 1).2.1 (TX1 1).2.2.1 ∈ wsX1_takeBack := by decide +kernel
  refine g_aload_n C dX1_takeBack_0 rfl 0 rfl ?_
  refine g_get (v := .int (ω 52 1)) C iX1 (by decide) (mk_7 (by decide)) rfl 1 (by decide) L16 rfl dX1_takeBack_1 ?_
  refine g_if_le (tgt := 15) C dX1_takeBack_4 (by decide) (fun h1 => ?_) (fun h1 => ?_)
  · refine g_iconst (v := 0) C dX1_takeBack_15 (by decide) ?_
    exact g_zret C hret hlk (nar_b (by decide)).1 (e1.trans (pr1 (v := 0) (w := ω) ((if_pos h1).trans rfl))) (e2.trans (pr2 (v := 0) (w := ω) ((if_pos h1).trans rfl))) dX1_takeBack_16
  · refine g_aload_n C dX1_takeBack_7 rfl 0 rfl ?_
    refine g_get (v := .int (ω 52 1)) C iX1 (by decide) (mk_7 (by decide)) rfl 1 (by decide) L16 rfl dX1_takeBack_8 ?_
    refine g_iconst (v := 4) C dX1_takeBack_11 (by decide) ?_
    refine g_icmp_le (tgt := 17) C dX1_takeBack_12 (by decide) (fun h2 => ?_) (fun h2 => ?_)
    · refine g_aload_n C dX1_takeBack_17 rfl 0 rfl ?_
      refine g_dup C dX1_takeBack_18 rfl ?_
      refine g_get (v := .int (ω 52 1)) C iX1 (by decide) (mk_7 (by decide)) rfl 1 (by decide) L16 rfl dX1_takeBack_19 ?_
      refine g_iconst (v := 1) C dX1_takeBack_22 (by decide) ?_
      refine g_isub (v := ((ω 52 1) - 1)) C dX1_takeBack_23 rfl ?_
      refine g_put C iX1 tyX1 tyX1_ok nmX1 (by decide) (mk_7 (by decide)) rfl 1 (by decide) L16 rfl rfl rfl (Nat.le_of_ble_eq_true rfl) dX1_takeBack_24 ?_
      refine gv_eqG (mkp_7_1 (by decide)) ?_
      refine g_aload_n C dX1_takeBack_27 rfl 1 rfl ?_
      refine g_aload_n C dX1_takeBack_28 rfl 0 rfl ?_
      refine g_get (v := .ref (ad 53)) C iX1 (by decide) (mk_7 (by decide)) rfl 0 (by decide) L11 rfl dX1_takeBack_29 ?_
      refine g_aload_n C dX1_takeBack_32 rfl 0 rfl ?_
      refine g_get (v := .int ((st ω 52 1 ((ω 52 1) - 1)) 52 1)) C iX1 (by decide) (mk_7 (by decide)) rfl 1 (by decide) L16 rfl dX1_takeBack_33 ?_
      refine g_aldq (k := ((st ω 52 1 ((ω 52 1) - 1)) 52 1).toNatClampNeg) (v := .ref (ad ((st ω 52 1 ((ω 52 1) - 1)) 53 ((st ω 52 1 ((ω 52 1) - 1)) 52 1).toNatClampNeg).toNatClampNeg)) C 3 (by decide) (mk_8 (by decide)) rfl (tb_in h1 h2) rfl rfl dX1_takeBack_36 ?_
      refine g_callV (rest := []) (st1 := []) C (c_X5_copyFrom B ((st ω 52 1 ((ω 52 1) - 1)) 53 ((st ω 52 1 ((ω 52 1) - 1)) 52 1).toNatClampNeg).toNatClampNeg hB ((hstP_ne hst (by decide)) (((st ω 52 1 ((ω 52 1) - 1)) 52 1).toNatClampNeg) (vp_in_lt (tb_in h1 h2) (by decide))) (st ω 52 1 ((ω 52 1) - 1))) (cwV 1 C.hts gX1_takeBack_X5_copyFrom rfl rfl rfl md_X5_copyFrom ⟨Nat.le_of_ble_eq_true rfl, Nat.le_of_ble_eq_true rfl⟩) (bS0 hB) (mk_1 (kS0 hB)) rfl rfl rfl rfl rfl (Nat.le_of_ble_eq_true rfl) dX1_takeBack_37 (Nat.zero_le _) (Nat.zero_le _) ?_
      refine g_iconst (v := 1) C dX1_takeBack_40 (by decide) ?_
      exact g_zret C hret hlk (nar_b (by decide)).1 (e1.trans (pr1 (v := 1) (w := (f_X5_copyFrom B ((st ω 52 1 ((ω 52 1) - 1)) 53 ((st ω 52 1 ((ω 52 1) - 1)) 52 1).toNatClampNeg).toNatClampNeg (st ω 52 1 ((ω 52 1) - 1)))) ((if_neg h1).trans ((if_pos h2).trans rfl)))) (e2.trans (pr2 (v := 1) (w := (f_X5_copyFrom B ((st ω 52 1 ((ω 52 1) - 1)) 53 ((st ω 52 1 ((ω 52 1) - 1)) 52 1).toNatClampNeg).toNatClampNeg (st ω 52 1 ((ω 52 1) - 1)))) ((if_neg h1).trans ((if_pos h2).trans rfl)))) dX1_takeBack_41
    · refine g_iconst (v := 0) C dX1_takeBack_15 (by decide) ?_
      exact g_zret C hret hlk (nar_b (by decide)).1 (e1.trans (pr1 (v := 0) (w := ω) ((if_neg h1).trans ((if_neg h2).trans rfl)))) (e2.trans (pr2 (v := 0) (w := ω) ((if_neg h1).trans ((if_neg h2).trans rfl)))) dX1_takeBack_16
