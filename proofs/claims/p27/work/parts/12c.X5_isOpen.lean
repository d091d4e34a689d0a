abbrev rm_X5_isOpen : Room := { frames := 2, cells := 0, slots := 0, locals := 42 }
theorem md_X5_isOpen : yX5_isOpen.cls = RX5 ∧ yX5_isOpen.cls ≠ "java/lang/invoke/MethodHandle" ∧ yX5_isOpen.cls ≠ "java/lang/invoke/VarHandle" ∧ (parseMethodDescriptor yX5_isOpen.desc).map (fun d => d.parameters.length) = some 1 := by decide +kernel
def f_X5_isOpen (B : Nat) (b : Nat) (ω : Mem) : Int32 := (f_X0_isOpen b (f_X4_valueOf (B + 1) 0 ω) ω)
set_option maxRecDepth 100000 in
set_option maxHeartbeats 4000000 in
theorem c_X5_isOpen {l_ : Launch} {sa : Nat → Nat} {D : va_G} {X : Nat → ClassId} {ad : Nat → Nat} (B : Nat) (b : Nat) (hB : isS B) (hb : isB b) (ω : Mem)  : CT l_ yX5_isOpen wsX5_isOpen rm_X5_isOpen sa D (tyX X) 120 ad (mk X ad ω) [.ref (ad B), .ref (ad b)] (some (.int (f_X5_isOpen B b ω)) : Option Value) (mk X ad ω) := by
  refine ct_of [(0, .ref (ad B)), (1, .ref (ad b))] (by decide +kernel) rfl rfl (Nat.le_of_ble_eq_true rfl) rfl ?_
  intro p_ e_ s_ m_ args_ below_ meth_ c_ C hret hlk hin
  have e1 : (some (.int (f_X5_isOpen B b ω)) : Option Value) = (some (.int (f_X5_isOpen B b ω)) : Option Value) := rfl
  have e2 : mk X ad ω = mk X ad ω := rfl
  have iX5 : ∀ w ∈ u_ws RX5 TX5 8, w ∈ wsX5_isOpen := by decide +kernel
  have L10 : Cond.fieldLink RX5 10 (TX5 0).1 (TX5 0).2.1 (TX5 0).2.2.1 ∈ wsX5_isOpen := by decide +kernel
  refine g_aload_n C dX5_isOpen_0 rfl 1 rfl ?_
  refine g_aload_n C dX5_isOpen_1 rfl 0 rfl ?_
  refine g_get (v := .ref (ad (B + 1))) C iX5 (bS0 hB) (mk_1 (kS0 hB)) rfl 0 (by decide) L10 rfl dX5_isOpen_2 ?_
  refine g_iconst (v := 0) C dX5_isOpen_5 (by decide) ?_
  refine g_callV (rest := [.ref (ad b)]) (st1 := [.int (f_X4_valueOf (B + 1) 0 ω), .ref (ad b)]) C (c_X4_valueOf (B + 1) 0 (hB).set ω) (cwV 1 C.hts gX5_isOpen_X4_valueOf rfl rfl rfl md_X4_valueOf ⟨Nat.le_of_ble_eq_true rfl, Nat.le_of_ble_eq_true rfl⟩) (bS1 hB) (mk_2 (kS1 hB)) rfl rfl rfl rfl rfl (Nat.le_of_ble_eq_true rfl) dX5_isOpen_6 (Nat.zero_le _) (Nat.zero_le _) ?_
  refine g_callV (rest := []) (st1 := [.int (f_X0_isOpen b (f_X4_valueOf (B + 1) 0 ω) ω)]) C (c_X0_isOpen b (f_X4_valueOf (B + 1) 0 ω) hb ω) (cwV 1 C.hts gX5_isOpen_X0_isOpen rfl rfl rfl md_X0_isOpen ⟨Nat.le_of_ble_eq_true rfl, Nat.le_of_ble_eq_true rfl⟩) (hb).1 (mk_4 (hb).2) rfl rfl rfl rfl rfl (Nat.le_of_ble_eq_true rfl) dX5_isOpen_9 (Nat.zero_le _) (Nat.zero_le _) ?_
  exact g_zret C hret hlk (nar_b (z_X0_isOpen ..)).1 (e1.trans (congrArg (fun z => some (Value.int z)) rfl)) e2 dX5_isOpen_12
theorem z_X5_isOpen {B : Nat} {b : Nat} {ω : Mem} : bb (f_X5_isOpen B b ω) = f_X5_isOpen B b ω := by
  unfold f_X5_isOpen
  repeat' split
  all_goals first | with_reducible exact z_X0_isOpen | with_reducible exact bb_bb _ | decide
abbrev rm_X5_allowsFire : Room := { frames := 2, cells := 0, slots := 0, locals := 42 }
theorem md_X5_allowsFire : yX5_allowsFire.cls = RX5 ∧ yX5_allowsFire.cls ≠ "java/lang/invoke/MethodHandle" ∧ yX5_allowsFire.cls ≠ "java/lang/invoke/VarHandle" ∧ (parseMethodDescriptor yX5_allowsFire.desc).map (fun d => d.parameters.length) = some 0 := by decide +kernel
def f_X5_allowsFire (B : Nat) (ω : Mem) : Int32 := (if (f_X4_valueOf (B + 1) 3 ω) ≤ (ω B 5) then 0 else 1)
set_option maxRecDepth 100000 in
set_option maxHeartbeats 4000000 in
theorem c_X5_allowsFire {l_ : Launch} {sa : Nat → Nat} {D : va_G} {X : Nat → ClassId} {ad : Nat → Nat} (B : Nat) (hB : isS B) (ω : Mem)  : CT l_ yX5_allowsFire wsX5_allowsFire rm_X5_allowsFire sa D (tyX X) 120 ad (mk X ad ω) [.ref (ad B)] (some (.int (f_X5_allowsFire B ω)) : Option Value) (mk X ad ω) := by
  refine ct_of [(0, .ref (ad B))] (by decide +kernel) rfl rfl (Nat.le_of_ble_eq_true rfl) rfl ?_
  intro p_ e_ s_ m_ args_ below_ meth_ c_ C hret hlk hin
  have e1 : (some (.int (f_X5_allowsFire B ω)) : Option Value) = (some (.int (f_X5_allowsFire B ω)) : Option Value) := rfl
  have e2 : mk X ad ω = mk X ad ω := rfl
  have iX5 : ∀ w ∈ u_ws RX5 TX5 8, w ∈ wsX5_allowsFire := by decide +kernel
  have L10 : Cond.fieldLink RX5 10 (TX5 0).1 (TX5 0).2.1 (TX5 0).2.2.1 ∈ wsX5_allowsFire := by decide +kernel
  have L60 : Cond.fieldLink RX5 60 (TX5 5).1 (TX5 5).2.1 (TX5 5).2.2.1 ∈ wsX5_allowsFire := by decide +kernel
  refine g_aload_n C dX5_allowsFire_0 rfl 0 rfl ?_
  refine g_get (v := .int (ω B 5)) C iX5 (bS0 hB) (mk_1 (kS0 hB)) rfl 5 (by decide) L60 rfl dX5_allowsFire_1 ?_
  refine g_aload_n C dX5_allowsFire_4 rfl 0 rfl ?_
  refine g_get (v := .ref (ad (B + 1))) C iX5 (bS0 hB) (mk_1 (kS0 hB)) rfl 0 (by decide) L10 rfl dX5_allowsFire_5 ?_
  refine g_iconst (v := 3) C dX5_allowsFire_8 (by decide) ?_
  refine g_callV (rest := [.int (ω B 5)]) (st1 := [.int (f_X4_valueOf (B + 1) 3 ω), .int (ω B 5)]) C (c_X4_valueOf (B + 1) 3 (hB).set ω) (cwV 1 C.hts gX5_allowsFire_X4_valueOf rfl rfl rfl md_X4_valueOf ⟨Nat.le_of_ble_eq_true rfl, Nat.le_of_ble_eq_true rfl⟩) (bS1 hB) (mk_2 (kS1 hB)) rfl rfl rfl rfl rfl (Nat.le_of_ble_eq_true rfl) dX5_allowsFire_9 (Nat.zero_le _) (Nat.zero_le _) ?_
  refine g_icmp_ge (tgt := 19) C dX5_allowsFire_12 (by decide) (fun h1 => ?_) (fun h1 => ?_)
  · refine g_iconst (v := 0) C dX5_allowsFire_19 (by decide) ?_
    exact g_zret C hret hlk (nar_b (by decide)).1 (e1.trans (congrArg (fun z => some (Value.int z)) ((if_pos h1).trans rfl))) e2 dX5_allowsFire_20
  · refine g_iconst (v := 1) C dX5_allowsFire_15 (by decide) ?_
    refine g_goto (tgt := 20) C dX5_allowsFire_16 (by decide) ?_
    exact g_zret C hret hlk (nar_b (by decide)).1 (e1.trans (congrArg (fun z => some (Value.int z)) ((if_neg h1).trans rfl))) e2 dX5_allowsFire_20
theorem z_X5_allowsFire {B : Nat} {ω : Mem} : bb (f_X5_allowsFire B ω) = f_X5_allowsFire B ω := by
  unfold f_X5_allowsFire
  repeat' split
  all_goals first | with_reducible exact bb_bb _ | decide
abbrev rm_X5_draft : Room := { frames := 1, cells := 0, slots := 0, locals := 23 }
theorem md_X5_draft : yX5_draft.cls = RX5 ∧ yX5_draft.cls ≠ "java/lang/invoke/MethodHandle" ∧ yX5_draft.cls ≠ "java/lang/invoke/VarHandle" ∧ (parseMethodDescriptor yX5_draft.desc).map (fun d => d.parameters.length) = some 0 := by decide +kernel
def f_X5_draft (B : Nat) (ω : Mem) : Int32 := (f_X3_draftIn (B + 8) (ω B 4) ω)
set_option maxRecDepth 100000 in
set_option maxHeartbeats 4000000 in
theorem c_X5_draft {l_ : Launch} {sa : Nat → Nat} {D : va_G} {X : Nat → ClassId} {ad : Nat → Nat} (B : Nat) (hB : isS B) (ω : Mem)  : CT l_ yX5_draft wsX5_draft rm_X5_draft sa D (tyX X) 120 ad (mk X ad ω) [.ref (ad B)] (some (.int (f_X5_draft B ω)) : Option Value) (mk X ad ω) := by
  refine ct_of [(0, .ref (ad B))] (by decide +kernel) rfl rfl (Nat.le_of_ble_eq_true rfl) rfl ?_
  intro p_ e_ s_ m_ args_ below_ meth_ c_ C hret hlk hin
  have e1 : (some (.int (f_X5_draft B ω)) : Option Value) = (some (.int (f_X5_draft B ω)) : Option Value) := rfl
  have e2 : mk X ad ω = mk X ad ω := rfl
  have iX5 : ∀ w ∈ u_ws RX5 TX5 8, w ∈ wsX5_draft := by decide +kernel
  have L32 : Cond.fieldLink RX5 32 (TX5 2).1 (TX5 2).2.1 (TX5 2).2.2.1 ∈ wsX5_draft := by decide +kernel
  have L56 : Cond.fieldLink RX5 56 (TX5 4).1 (TX5 4).2.1 (TX5 4).2.2.1 ∈ wsX5_draft := by decide +kernel
  refine g_aload_n C dX5_draft_0 rfl 0 rfl ?_
  refine g_get (v := .ref (ad (B + 8))) C iX5 (bS0 hB) (mk_1 (kS0 hB)) rfl 2 (by decide) L32 rfl dX5_draft_1 ?_
  refine g_aload_n C dX5_draft_4 rfl 0 rfl ?_
  refine g_get (v := .int (ω B 4)) C iX5 (bS0 hB) (mk_1 (kS0 hB)) rfl 4 (by decide) L56 rfl dX5_draft_5 ?_
  refine g_callV (rest := []) (st1 := [.int (f_X3_draftIn (B + 8) (ω B 4) ω)]) C (c_X3_draftIn (B + 8) (ω B 4) (hB).pl ω) (cwV 1 C.hts gX5_draft_X3_draftIn rfl rfl rfl md_X3_draftIn ⟨Nat.le_of_ble_eq_true rfl, Nat.le_of_ble_eq_true rfl⟩) (bS8 hB) (mk_5 (kS8 hB)) rfl rfl rfl rfl rfl (Nat.le_of_ble_eq_true rfl) dX5_draft_8 (Nat.zero_le _) (Nat.zero_le _) ?_
  exact g_iret C hret hlk (e1.trans (congrArg (fun z => some (Value.int z)) rfl)) e2 dX5_draft_11
abbrev rm_X5_kindle : Room := { frames := 3, cells := 0, slots := 0, locals := 62 }
theorem md_X5_kindle : yX5_kindle.cls = RX5 ∧ yX5_kindle.cls ≠ "java/lang/invoke/MethodHandle" ∧ yX5_kindle.cls ≠ "java/lang/invoke/VarHandle" ∧ (parseMethodDescriptor yX5_kindle.desc).map (fun d => d.parameters.length) = some 2 := by decide +kernel
def f_X5_kindle (B : Nat) (x : Int32) (b : Nat) (ω : Mem) : Mem := (f_X2_note (B + 11) 0 x ((st (st ω b 4 1) b 7 0) B 4) (st (st ω b 4 1) b 7 0))
set_option maxRecDepth 100000 in
set_option maxHeartbeats 4000000 in
theorem c_X5_kindle {l_ : Launch} {sa : Nat → Nat} {D : va_G} {X : Nat → ClassId} {ad : Nat → Nat} (B : Nat) (x : Int32) (b : Nat) (hB : isS B) (hb : isB b) (ω : Mem)  : CT l_ yX5_kindle wsX5_kindle rm_X5_kindle sa D (tyX X) 120 ad (mk X ad ω) [.ref (ad B), .int x, .ref (ad b)] (none : Option Value) (mk X ad (f_X5_kindle B x b ω)) := by
  refine ct_of [(0, .ref (ad B)), (1, .int x), (2, .ref (ad b))] (by decide +kernel) rfl rfl (Nat.le_of_ble_eq_true rfl) rfl ?_
  intro p_ e_ s_ m_ args_ below_ meth_ c_ C hret hlk hin
  have e1 : (none : Option Value) = (none : Option Value) := rfl
  have e2 : mk X ad (f_X5_kindle B x b ω) = mk X ad (f_X5_kindle B x b ω) := rfl
  have iX0 : ∀ w ∈ u_ws RX0 TX0 10, w ∈ wsX5_kindle := by decide +kernel
  have iX5 : ∀ w ∈ u_ws RX5 TX5 8, w ∈ wsX5_kindle := by decide +kernel
  have L39 : Cond.fieldLink RX5 39 (TX5 3).1 (TX5 3).2.1 (TX5 3).2.2.1 ∈ wsX5_kindle := by decide +kernel
  have L56 : Cond.fieldLink RX5 56 (TX5 4).1 (TX5 4).2.1 (TX5 4).2.2.1 ∈ wsX5_kindle := by decide +kernel
  have L80 : Cond.fieldLink RX5 80 (TX0 4).1 (TX0 4).2.1 (TX0 4).2.2.1 ∈ wsX5_kindle := by decide +kernel
  have L84 : Cond.fieldLink RX5 84 (TX0 7).1 (TX0 7).2.1 (TX0 7).2.2.1 ∈ wsX5_kindle := by decide +kernel
  refine g_aload_n C dX5_kindle_0 rfl 2 rfl ?_
  refine g_iconst (v := 1) C dX5_kindle_1 (by decide) ?_
  refine g_put C iX0 tyX0 tyX0_ok nmX0 (hb).1 (mk_4 (hb).2) rfl 4 (by decide) L80 rfl (nar_b (by decide)).1 (nar_b (by decide)).2 (Nat.le_of_ble_eq_true rfl) dX5_kindle_2 ?_
  refine gv_eqG (mkp_4_4 (hb).2 (by decide)) ?_
  refine g_aload_n C dX5_kindle_5 rfl 2 rfl ?_
  refine g_iconst (v := 0) C dX5_kindle_6 (by decide) ?_
  refine g_put C iX0 tyX0 tyX0_ok nmX0 (hb).1 (mk_4 (hb).2) rfl 7 (by decide) L84 rfl rfl rfl (Nat.le_of_ble_eq_true rfl) dX5_kindle_7 ?_
  refine gv_eqG (mkp_4_7 (hb).2) ?_
  refine g_aload_n C dX5_kindle_10 rfl 0 rfl ?_
  refine g_get (v := .ref (ad (B + 11))) C iX5 (bS0 hB) (mk_1 (kS0 hB)) rfl 3 (by decide) L39 rfl dX5_kindle_11 ?_
  refine g_iconst (v := 0) C dX5_kindle_14 (by decide) ?_
  refine g_iload_n C dX5_kindle_15 rfl 1 rfl ?_
  refine g_aload_n C dX5_kindle_16 rfl 0 rfl ?_
  refine g_get (v := .int ((st (st ω b 4 1) b 7 0) B 4)) C iX5 (bS0 hB) (mk_1 (kS0 hB)) rfl 4 (by decide) L56 rfl dX5_kindle_17 ?_
  refine g_callV (rest := []) (st1 := []) C (c_X2_note (B + 11) 0 x ((st (st ω b 4 1) b 7 0) B 4) (hB).lg (by omega) (st (st ω b 4 1) b 7 0)) (cwV 3 C.hts gX5_kindle_X2_note rfl rfl rfl md_X2_note ⟨Nat.le_of_ble_eq_true rfl, Nat.le_of_ble_eq_true rfl⟩) (bS11 hB) (mk_6 (kS11 hB)) rfl rfl rfl rfl rfl (Nat.le_of_ble_eq_true rfl) dX5_kindle_20 (Nat.zero_le _) (Nat.zero_le _) ?_
  exact g_vret C hret hlk e1 (e2.trans (congrArg (mk X ad) rfl)) dX5_kindle_23
abbrev rm_X5_blow : Room := { frames := 3, cells := 0, slots := 0, locals := 63 }
theorem md_X5_blow : yX5_blow.cls = RX5 ∧ yX5_blow.cls ≠ "java/lang/invoke/MethodHandle" ∧ yX5_blow.cls ≠ "java/lang/invoke/VarHandle" ∧ (parseMethodDescriptor yX5_blow.desc).map (fun d => d.parameters.length) = some 3 := by decide +kernel
def f_X5_blow (B : Nat) (x : Int32) (b : Nat) (d : Int32) (ω : Mem) : Mem := (if (bb (ω b 4)) = 0 then ω else (if (f_X5_isOpen B b ω) = 0 then (st ω b 4 0) else (if d ≤ (f_X0_strength b ω) then ω else (f_X2_note (B + 11) 1 x ((st ω b 4 0) B 4) (st ω b 4 0)))))
set_option maxRecDepth 100000 in
set_option maxHeartbeats 4000000 in
theorem c_X5_blow {l_ : Launch} {sa : Nat → Nat} {D : va_G} {X : Nat → ClassId} {ad : Nat → Nat} (B : Nat) (x : Int32) (b : Nat) (d : Int32) (hB : isS B) (hb : isB b) (ω : Mem)  : CT l_ yX5_blow wsX5_blow rm_X5_blow sa D (tyX X) 120 ad (mk X ad ω) [.ref (ad B), .int x, .ref (ad b), .int d] (none : Option Value) (mk X ad (f_X5_blow B x b d ω)) := by
  refine ct_of [(0, .ref (ad B)), (1, .int x), (2, .ref (ad b)), (3, .int d)] (by decide +kernel) rfl rfl (Nat.le_of_ble_eq_true rfl) rfl ?_
  intro p_ e_ s_ m_ args_ below_ meth_ c_ C hret hlk hin
  have e1 : (none : Option Value) = (none : Option Value) := rfl
  have e2 : mk X ad (f_X5_blow B x b d ω) = mk X ad (f_X5_blow B x b d ω) := rfl
  have iX0 : ∀ w ∈ u_ws RX0 TX0 10, w ∈ wsX5_blow := by decide +kernel
  have iX5 : ∀ w ∈ u_ws RX5 TX5 8, w ∈ wsX5_blow := by decide +kernel
  have L39 : Cond.fieldLink RX5 39 (TX5 3).1 (TX5 3).2.1 (TX5 3).2.2.1 ∈ wsX5_blow := by decide +kernel
  have L56 : Cond.fieldLink RX5 56 (TX5 4).1 (TX5 4).2.1 (TX5 4).2.2.1 ∈ wsX5_blow := by decide +kernel
  have L80 : Cond.fieldLink RX5 80 (TX0 4).1 (TX0 4).2.1 (TX0 4).2.2.1 ∈ wsX5_blow := by decide +kernel
  refine g_aload_n C dX5_blow_0 rfl 2 rfl ?_
  refine g_get (v := .int (bb (ω b 4))) C iX0 (hb).1 (mk_4 (hb).2) rfl 4 (by decide) L80 rfl dX5_blow_1 ?_
  refine g_if_ne (tgt := 8) C dX5_blow_4 (by decide) (fun h1 => ?_) (fun h1 => ?_)
  · refine g_aload_n C dX5_blow_8 rfl 0 rfl ?_
    refine g_aload_n C dX5_blow_9 rfl 2 rfl ?_
    refine g_callV (rest := []) (st1 := [.int (f_X5_isOpen B b ω)]) C (c_X5_isOpen B b hB hb ω) (cwV 1 C.hts gX5_blow_X5_isOpen rfl rfl rfl md_X5_isOpen ⟨Nat.le_of_ble_eq_true rfl, Nat.le_of_ble_eq_true rfl⟩) (bS0 hB) (mk_1 (kS0 hB)) rfl rfl rfl rfl rfl (Nat.le_of_ble_eq_true rfl) dX5_blow_10 (Nat.zero_le _) (Nat.zero_le _) ?_
    refine g_if_ne (tgt := 24) C dX5_blow_13 (by decide) (fun h2 => ?_) (fun h2 => ?_)
    · refine g_iload_n C dX5_blow_24 rfl 3 rfl ?_
      refine g_aload_n C dX5_blow_25 rfl 2 rfl ?_
      refine g_callV (rest := [.int d]) (st1 := [.int (f_X0_strength b ω), .int d]) C (c_X0_strength b hb ω) (cwV 0 C.hts gX5_blow_X0_strength rfl rfl rfl md_X0_strength ⟨Nat.le_of_ble_eq_true rfl, Nat.le_of_ble_eq_true rfl⟩) (hb).1 (mk_4 (hb).2) rfl rfl rfl rfl rfl (Nat.le_of_ble_eq_true rfl) dX5_blow_26 (Nat.zero_le _) (Nat.zero_le _) ?_
      refine g_icmp_le (tgt := 50) C dX5_blow_29 (by decide) (fun h3 => ?_) (fun h3 => ?_)
      · exact g_vret C hret hlk e1 (e2.trans (congrArg (mk X ad) ((if_neg h1).trans ((if_neg h2).trans ((if_pos h3).trans rfl))))) dX5_blow_50
      · refine g_aload_n C dX5_blow_32 rfl 2 rfl ?_
        refine g_iconst (v := 0) C dX5_blow_33 (by decide) ?_
        refine g_put C iX0 tyX0 tyX0_ok nmX0 (hb).1 (mk_4 (hb).2) rfl 4 (by decide) L80 rfl (nar_b (by decide)).1 (nar_b (by decide)).2 (Nat.le_of_ble_eq_true rfl) dX5_blow_34 ?_
        refine gv_eqG (mkp_4_4 (hb).2 (by decide)) ?_
        refine g_aload_n C dX5_blow_37 rfl 0 rfl ?_
        refine g_get (v := .ref (ad (B + 11))) C iX5 (bS0 hB) (mk_1 (kS0 hB)) rfl 3 (by decide) L39 rfl dX5_blow_38 ?_
        refine g_iconst (v := 1) C dX5_blow_41 (by decide) ?_
        refine g_iload_n C dX5_blow_42 rfl 1 rfl ?_
        refine g_aload_n C dX5_blow_43 rfl 0 rfl ?_
        refine g_get (v := .int ((st ω b 4 0) B 4)) C iX5 (bS0 hB) (mk_1 (kS0 hB)) rfl 4 (by decide) L56 rfl dX5_blow_44 ?_
        refine g_callV (rest := []) (st1 := []) C (c_X2_note (B + 11) 1 x ((st ω b 4 0) B 4) (hB).lg (by omega) (st ω b 4 0)) (cwV 3 C.hts gX5_blow_X2_note rfl rfl rfl md_X2_note ⟨Nat.le_of_ble_eq_true rfl, Nat.le_of_ble_eq_true rfl⟩) (bS11 hB) (mk_6 (kS11 hB)) rfl rfl rfl rfl rfl (Nat.le_of_ble_eq_true rfl) dX5_blow_47 (Nat.zero_le _) (Nat.zero_le _) ?_
        exact g_vret C hret hlk e1 (e2.trans (congrArg (mk X ad) ((if_neg h1).trans ((if_neg h2).trans ((if_neg h3).trans rfl))))) dX5_blow_50
    · refine g_aload_n C dX5_blow_16 rfl 2 rfl ?_
      refine g_iconst (v := 0) C dX5_blow_17 (by decide) ?_
      refine g_put C iX0 tyX0 tyX0_ok nmX0 (hb).1 (mk_4 (hb).2) rfl 4 (by decide) L80 rfl (nar_b (by decide)).1 (nar_b (by decide)).2 (Nat.le_of_ble_eq_true rfl) dX5_blow_18 ?_
      refine gv_eqG (mkp_4_4 (hb).2 (by decide)) ?_
      refine g_goto (tgt := 50) C dX5_blow_21 (by decide) ?_
      exact g_vret C hret hlk e1 (e2.trans (congrArg (mk X ad) ((if_neg h1).trans ((if_pos h2).trans rfl)))) dX5_blow_50
  · exact g_vret C hret hlk e1 (e2.trans (congrArg (mk X ad) ((if_pos h1).trans rfl))) dX5_blow_7
abbrev rm_X5_spark : Room := { frames := 4, cells := 0, slots := 0, locals := 84 }
theorem md_X5_spark : yX5_spark.cls = RX5 ∧ yX5_spark.cls ≠ "java/lang/invoke/MethodHandle" ∧ yX5_spark.cls ≠ "java/lang/invoke/VarHandle" ∧ (parseMethodDescriptor yX5_spark.desc).map (fun d => d.parameters.length) = some 3 := by decide +kernel
def f_X5_spark_70 (B : Nat) (x : Int32) (b : Nat) (d : Int32) (ω : Mem) : Mem := (f_X2_note (B + 11) 3 x (ω B 4) ω)
set_option maxRecDepth 100000 in
set_option maxHeartbeats 4000000 in
theorem k_X5_spark_70 {l_ : Launch} {p_ : Program} {e_ : Env} {s_ : State} {m_ : MethodId} {args_ : Array Value} {below_ : List Frame} {meth_ : Method} {c_ : Code} {sa : Nat → Nat} {D : va_G} {X : Nat → ClassId} {ad : Nat → Nat} {G0 : Nat → va_E} (B : Nat) (x : Int32) (b : Nat) (d : Int32) (hB : isS B) (hb : isB b) (C : GC p_ rm_X5_spark s_ m_ args_ meth_ c_ cX5_spark 4 wsX5_spark RX5 sa D (tyX X) (va_A (gw 120 ad G0) s_.heap.size)) (hret : meth_.sig.returnType = none) (hlk : meth_.locks = false) : ∀  (ω : Mem)  (rv : Option Value) (G2 : Nat → va_E) (e1 : rv = none) (e2 : G2 = mk X ad (f_X5_spark_70 B x b d ω)), GV p_ l_ e_ rm_X5_spark s_ m_ args_ below_ meth_ c_ 0 0 (CQ below_ args_ s_ D 120 ad G0 rv G2) D (va_A (gw 120 ad G0) s_.heap.size) 4 120 ad (mk X ad ω) [(0, .ref (ad B)), (1, .int x), (2, .ref (ad b)), (3, .int d)] 70 [] := by
  have iX5 : ∀ w ∈ u_ws RX5 TX5 8, w ∈ wsX5_spark := by decide +kernel
  have L39 : Cond.fieldLink RX5 39 (TX5 3).1 (TX5 3).2.1 (TX5 3).2.2.1 ∈ wsX5_spark := by decide +kernel
  have L56 : Cond.fieldLink RX5 56 (TX5 4).1 (TX5 4).2.1 (TX5 4).2.2.1 ∈ wsX5_spark := by decide +kernel
  intro ω rv G2 e1 e2
  refine g_aload_n C dX5_spark_70 rfl 0 rfl ?_
  refine g_get (v := .ref (ad (B + 11))) C iX5 (bS0 hB) (mk_1 (kS0 hB)) rfl 3 (by decide) L39 rfl dX5_spark_71 ?_
  refine g_iconst (v := 3) C dX5_spark_74 (by decide) ?_
  refine g_iload_n C dX5_spark_75 rfl 1 rfl ?_
  refine g_aload_n C dX5_spark_76 rfl 0 rfl ?_
  refine g_get (v := .int (ω B 4)) C iX5 (bS0 hB) (mk_1 (kS0 hB)) rfl 4 (by decide) L56 rfl dX5_spark_77 ?_
  refine g_callV (rest := []) (st1 := []) C (c_X2_note (B + 11) 3 x (ω B 4) (hB).lg (by omega) ω) (cwV 3 C.hts gX5_spark_X2_note rfl rfl rfl md_X2_note ⟨Nat.le_of_ble_eq_true rfl, Nat.le_of_ble_eq_true rfl⟩) (bS11 hB) (mk_6 (kS11 hB)) rfl rfl rfl rfl rfl (Nat.le_of_ble_eq_true rfl) dX5_spark_80 (Nat.zero_le _) (Nat.zero_le _) ?_
  exact g_vret C hret hlk e1 (e2.trans (congrArg (mk X ad) rfl)) dX5_spark_83
def f_X5_spark_33 (B : Nat) (x : Int32) (b : Nat) (d : Int32) (ω : Mem) : Mem := (if (f_X0_strength b ω) < d then (if (ω b 7) < (f_X4_valueOf (B + 1) 1 ω) then ω else (f_X5_spark_70 B x b d (st ω b 6 1))) else (f_X5_kindle B x b ω))
set_option maxRecDepth 100000 in
set_option maxHeartbeats 4000000 in
theorem k_X5_spark_33 {l_ : Launch} {p_ : Program} {e_ : Env} {s_ : State} {m_ : MethodId} {args_ : Array Value} {below_ : List Frame} {meth_ : Method} {c_ : Code} {sa : Nat → Nat} {D : va_G} {X : Nat → ClassId} {ad : Nat → Nat} {G0 : Nat → va_E} (B : Nat) (x : Int32) (b : Nat) (d : Int32) (hB : isS B) (hb : isB b) (C : GC p_ rm_X5_spark s_ m_ args_ meth_ c_ cX5_spark 4 wsX5_spark RX5 sa D (tyX X) (va_A (gw 120 ad G0) s_.heap.size)) (hret : meth_.sig.returnType = none) (hlk : meth_.locks = false) : ∀  (ω : Mem)  (rv : Option Value) (G2 : Nat → va_E) (e1 : rv = none) (e2 : G2 = mk X ad (f_X5_spark_33 B x b d ω)), GV p_ l_ e_ rm_X5_spark s_ m_ args_ below_ meth_ c_ 0 0 (CQ below_ args_ s_ D 120 ad G0 rv G2) D (va_A (gw 120 ad G0) s_.heap.size) 4 120 ad (mk X ad ω) [(0, .ref (ad B)), (1, .int x), (2, .ref (ad b)), (3, .int d)] 33 [] := by
  have iX0 : ∀ w ∈ u_ws RX0 TX0 10, w ∈ wsX5_spark := by decide +kernel
  have iX5 : ∀ w ∈ u_ws RX5 TX5 8, w ∈ wsX5_spark := by decide +kernel
  have L10 : Cond.fieldLink RX5 10 (TX5 0).1 (TX5 0).2.1 (TX5 0).2.2.1 ∈ wsX5_spark := by decide +kernel
  have L134 : Cond.fieldLink RX5 134 (TX0 6).1 (TX0 6).2.1 (TX0 6).2.2.1 ∈ wsX5_spark := by decide +kernel
  have L84 : Cond.fieldLink RX5 84 (TX0 7).1 (TX0 7).2.1 (TX0 7).2.2.1 ∈ wsX5_spark := by decide +kernel
  intro ω rv G2 e1 e2
  refine g_iload_n C dX5_spark_33 rfl 3 rfl ?_
  refine g_aload_n C dX5_spark_34 rfl 2 rfl ?_
  refine g_callV (rest := [.int d]) (st1 := [.int (f_X0_strength b ω), .int d]) C (c_X0_strength b hb ω) (cwV 0 C.hts gX5_spark_X0_strength rfl rfl rfl md_X0_strength ⟨Nat.le_of_ble_eq_true rfl, Nat.le_of_ble_eq_true rfl⟩) (hb).1 (mk_4 (hb).2) rfl rfl rfl rfl rfl (Nat.le_of_ble_eq_true rfl) dX5_spark_35 (Nat.zero_le _) (Nat.zero_le _) ?_
  refine g_icmp_gt (tgt := 50) C dX5_spark_38 (by decide) (fun h1 => ?_) (fun h1 => ?_)
  · refine g_aload_n C dX5_spark_50 rfl 2 rfl ?_
    refine g_get (v := .int (ω b 7)) C iX0 (hb).1 (mk_4 (hb).2) rfl 7 (by decide) L84 rfl dX5_spark_51 ?_
    refine g_aload_n C dX5_spark_54 rfl 0 rfl ?_
    refine g_get (v := .ref (ad (B + 1))) C iX5 (bS0 hB) (mk_1 (kS0 hB)) rfl 0 (by decide) L10 rfl dX5_spark_55 ?_
    refine g_iconst (v := 1) C dX5_spark_58 (by decide) ?_
    refine g_callV (rest := [.int (ω b 7)]) (st1 := [.int (f_X4_valueOf (B + 1) 1 ω), .int (ω b 7)]) C (c_X4_valueOf (B + 1) 1 (hB).set ω) (cwV 1 C.hts gX5_spark_X4_valueOf rfl rfl rfl md_X4_valueOf ⟨Nat.le_of_ble_eq_true rfl, Nat.le_of_ble_eq_true rfl⟩) (bS1 hB) (mk_2 (kS1 hB)) rfl rfl rfl rfl rfl (Nat.le_of_ble_eq_true rfl) dX5_spark_59 (Nat.zero_le _) (Nat.zero_le _) ?_
    refine g_icmp_lt (tgt := 83) C dX5_spark_62 (by decide) (fun h2 => ?_) (fun h2 => ?_)
    · exact g_vret C hret hlk e1 (e2.trans (congrArg (mk X ad) ((if_pos h1).trans ((if_pos h2).trans rfl)))) dX5_spark_83
    · refine g_aload_n C dX5_spark_65 rfl 2 rfl ?_
      refine g_iconst (v := 1) C dX5_spark_66 (by decide) ?_
      refine g_put C iX0 tyX0 tyX0_ok nmX0 (hb).1 (mk_4 (hb).2) rfl 6 (by decide) L134 rfl (nar_b (by decide)).1 (nar_b (by decide)).2 (Nat.le_of_ble_eq_true rfl) dX5_spark_67 ?_
      refine gv_eqG (mkp_4_6 (hb).2 (by decide)) ?_
      exact k_X5_spark_70 B x b d hB hb C hret hlk  (st ω b 6 1)  _ _ e1 (e2.trans (congrArg (mk X ad) ((if_pos h1).trans ((if_neg h2).trans rfl))))
  · refine g_aload_n C dX5_spark_41 rfl 0 rfl ?_
    refine g_iload_n C dX5_spark_42 rfl 1 rfl ?_
    refine g_aload_n C dX5_spark_43 rfl 2 rfl ?_
    refine g_callV (rest := []) (st1 := []) C (c_X5_kindle B x b hB hb ω) (cwV 2 C.hts gX5_spark_X5_kindle rfl rfl rfl md_X5_kindle ⟨Nat.le_of_ble_eq_true rfl, Nat.le_of_ble_eq_true rfl⟩) (bS0 hB) (mk_1 (kS0 hB)) rfl rfl rfl rfl rfl (Nat.le_of_ble_eq_true rfl) dX5_spark_44 (Nat.zero_le _) (Nat.zero_le _) ?_
    refine g_goto (tgt := 83) C dX5_spark_47 (by decide) ?_
    exact g_vret C hret hlk e1 (e2.trans (congrArg (mk X ad) ((if_neg h1).trans rfl))) dX5_spark_83
def f_X5_spark (B : Nat) (x : Int32) (b : Nat) (d : Int32) (ω : Mem) : Mem := (if (bb (ω b 4)) = 0 then (if (bb (ω b 3)) = 0 then ω else (if (f_X5_isOpen B b ω) = 0 then ω else (f_X5_spark_33 B x b d (st ω b 7 ((ω b 7) + 1))))) else ω)
set_option maxRecDepth 100000 in
set_option maxHeartbeats 4000000 in
theorem c_X5_spark {l_ : Launch} {sa : Nat → Nat} {D : va_G} {X : Nat → ClassId} {ad : Nat → Nat} (B : Nat) (x : Int32) (b : Nat) (d : Int32) (hB : isS B) (hb : isB b) (ω : Mem)  : CT l_ yX5_spark wsX5_spark rm_X5_spark sa D (tyX X) 120 ad (mk X ad ω) [.ref (ad B), .int x, .ref (ad b), .int d] (none : Option Value) (mk X ad (f_X5_spark B x b d ω)) := by
  refine ct_of [(0, .ref (ad B)), (1, .int x), (2, .ref (ad b)), (3, .int d)] (by decide +kernel) rfl rfl (Nat.le_of_ble_eq_true rfl) rfl ?_
  intro p_ e_ s_ m_ args_ below_ meth_ c_ C hret hlk hin
  have e1 : (none : Option Value) = (none : Option Value) := rfl
  have e2 : mk X ad (f_X5_spark B x b d ω) = mk X ad (f_X5_spark B x b d ω) := rfl
  have iX0 : ∀ w ∈ u_ws RX0 TX0 10, w ∈ wsX5_spark := by decide +kernel
  have L123 : Cond.fieldLink RX5 123 (TX0 3).1 (TX0 3).2.1 (TX0 3).2.2.1 ∈ wsX5_spark := by decide +kernel
  have L80 : Cond.fieldLink RX5 80 (TX0 4).1 (TX0 4).2.1 (TX0 4).2.2.1 ∈ wsX5_spark := by decide +kernel
  have L84 : Cond.fieldLink RX5 84 (TX0 7).1 (TX0 7).2.1 (TX0 7).2.2.1 ∈ wsX5_spark := by decide +kernel
  refine g_aload_n C dX5_spark_0 rfl 2 rfl ?_
  refine g_get (v := .int (bb (ω b 4))) C iX0 (hb).1 (mk_4 (hb).2) rfl 4 (by decide) L80 rfl dX5_spark_1 ?_
  refine g_if_ne (tgt := 22) C dX5_spark_4 (by decide) (fun h1 => ?_) (fun h1 => ?_)
  · exact g_vret C hret hlk e1 (e2.trans (congrArg (mk X ad) ((if_neg h1).trans rfl))) dX5_spark_22
  · refine g_aload_n C dX5_spark_7 rfl 2 rfl ?_
    refine g_get (v := .int (bb (ω b 3))) C iX0 (hb).1 (mk_4 (hb).2) rfl 3 (by decide) L123 rfl dX5_spark_8 ?_
    refine g_if_eq (tgt := 22) C dX5_spark_11 (by decide) (fun h2 => ?_) (fun h2 => ?_)
    · exact g_vret C hret hlk e1 (e2.trans (congrArg (mk X ad) ((if_pos h1).trans ((if_pos h2).trans rfl)))) dX5_spark_22
    · refine g_aload_n C dX5_spark_14 rfl 0 rfl ?_
      refine g_aload_n C dX5_spark_15 rfl 2 rfl ?_
      refine g_callV (rest := []) (st1 := [.int (f_X5_isOpen B b ω)]) C (c_X5_isOpen B b hB hb ω) (cwV 1 C.hts gX5_spark_X5_isOpen rfl rfl rfl md_X5_isOpen ⟨Nat.le_of_ble_eq_true rfl, Nat.le_of_ble_eq_true rfl⟩) (bS0 hB) (mk_1 (kS0 hB)) rfl rfl rfl rfl rfl (Nat.le_of_ble_eq_true rfl) dX5_spark_16 (Nat.zero_le _) (Nat.zero_le _) ?_
      refine g_if_ne (tgt := 23) C dX5_spark_19 (by decide) (fun h3 => ?_) (fun h3 => ?_)
      · refine g_aload_n C dX5_spark_23 rfl 2 rfl ?_
        refine g_dup C dX5_spark_24 rfl ?_
        refine g_get (v := .int (ω b 7)) C iX0 (hb).1 (mk_4 (hb).2) rfl 7 (by decide) L84 rfl dX5_spark_25 ?_
        refine g_iconst (v := 1) C dX5_spark_28 (by decide) ?_
        refine g_iadd (v := ((ω b 7) + 1)) C dX5_spark_29 rfl ?_
        refine g_put C iX0 tyX0 tyX0_ok nmX0 (hb).1 (mk_4 (hb).2) rfl 7 (by decide) L84 rfl rfl rfl (Nat.le_of_ble_eq_true rfl) dX5_spark_30 ?_
        refine gv_eqG (mkp_4_7 (hb).2) ?_
        exact k_X5_spark_33 B x b d hB hb C hret hlk  (st ω b 7 ((ω b 7) + 1))  _ _ e1 (e2.trans (congrArg (mk X ad) ((if_pos h1).trans ((if_neg h2).trans ((if_neg h3).trans rfl)))))
      · exact g_vret C hret hlk e1 (e2.trans (congrArg (mk X ad) ((if_pos h1).trans ((if_neg h2).trans ((if_pos h3).trans rfl))))) dX5_spark_22
abbrev rm_X5_warmOrDrop : Room := { frames := 4, cells := 0, slots := 0, locals := 84 }
theorem md_X5_warmOrDrop : yX5_warmOrDrop.cls = RX5 ∧ yX5_warmOrDrop.cls ≠ "java/lang/invoke/MethodHandle" ∧ yX5_warmOrDrop.cls ≠ "java/lang/invoke/VarHandle" ∧ (parseMethodDescriptor yX5_warmOrDrop.desc).map (fun d => d.parameters.length) = some 2 := by decide +kernel
def f_X5_warmOrDrop (B : Nat) (x : Int32) (b : Nat) (ω : Mem) : Mem := (if (f_X5_isOpen B b ω) = 0 then (f_X0_warmOrCool b ω) else (if (f_X5_isOpen B b (f_X0_warmOrCool b ω)) = 0 then (f_X2_note (B + 11) 2 x ((st (f_X0_warmOrCool b ω) b 4 0) B 4) (st (f_X0_warmOrCool b ω) b 4 0)) else (f_X0_warmOrCool b ω)))
set_option maxRecDepth 100000 in
set_option maxHeartbeats 4000000 in
theorem c_X5_warmOrDrop {l_ : Launch} {sa : Nat → Nat} {D : va_G} {X : Nat → ClassId} {ad : Nat → Nat} (B : Nat) (x : Int32) (b : Nat) (hB : isS B) (hb : isB b) (ω : Mem)  : CT l_ yX5_warmOrDrop wsX5_warmOrDrop rm_X5_warmOrDrop sa D (tyX X) 120 ad (mk X ad ω) [.ref (ad B), .int x, .ref (ad b)] (none : Option Value) (mk X ad (f_X5_warmOrDrop B x b ω)) := by
  refine ct_of [(0, .ref (ad B)), (1, .int x), (2, .ref (ad b))] (by decide +kernel) rfl rfl (Nat.le_of_ble_eq_true rfl) rfl ?_
  intro p_ e_ s_ m_ args_ below_ meth_ c_ C hret hlk hin
  have e1 : (none : Option Value) = (none : Option Value) := rfl
  have e2 : mk X ad (f_X5_warmOrDrop B x b ω) = mk X ad (f_X5_warmOrDrop B x b ω) := rfl
  have iX0 : ∀ w ∈ u_ws RX0 TX0 10, w ∈ wsX5_warmOrDrop := by decide +kernel
  have iX5 : ∀ w ∈ u_ws RX5 TX5 8, w ∈ wsX5_warmOrDrop := by decide +kernel
  have L39 : Cond.fieldLink RX5 39 (TX5 3).1 (TX5 3).2.1 (TX5 3).2.2.1 ∈ wsX5_warmOrDrop := by decide +kernel
  have L56 : Cond.fieldLink RX5 56 (TX5 4).1 (TX5 4).2.1 (TX5 4).2.2.1 ∈ wsX5_warmOrDrop := by decide +kernel
  have L80 : Cond.fieldLink RX5 80 (TX0 4).1 (TX0 4).2.1 (TX0 4).2.2.1 ∈ wsX5_warmOrDrop := by decide +kernel
  refine g_aload_n C dX5_warmOrDrop_0 rfl 0 rfl ?_
  refine g_aload_n C dX5_warmOrDrop_1 rfl 2 rfl ?_
  refine g_callV (rest := []) (st1 := [.int (f_X5_isOpen B b ω)]) C (c_X5_isOpen B b hB hb ω) (cwV 1 C.hts gX5_warmOrDrop_X5_isOpen rfl rfl rfl md_X5_isOpen ⟨Nat.le_of_ble_eq_true rfl, Nat.le_of_ble_eq_true rfl⟩) (bS0 hB) (mk_1 (kS0 hB)) rfl rfl rfl rfl rfl (Nat.le_of_ble_eq_true rfl) dX5_warmOrDrop_2 (Nat.zero_le _) (Nat.zero_le _) ?_
  refine g_istore_n (lv' := [(3, .int (f_X5_isOpen B b ω)), (0, .ref (ad B)), (1, .int x), (2, .ref (ad b))]) C dX5_warmOrDrop_5 rfl (by decide) rfl ?_
  refine g_aload_n C dX5_warmOrDrop_6 rfl 3 rfl ?_
  refine g_callV (rest := []) (st1 := []) C (c_X0_warmOrCool b hb ω) (cwV 0 C.hts gX5_warmOrDrop_X0_warmOrCool rfl rfl rfl md_X0_warmOrCool ⟨Nat.le_of_ble_eq_true rfl, Nat.le_of_ble_eq_true rfl⟩) (hb).1 (mk_4 (hb).2) rfl rfl rfl rfl rfl (Nat.le_of_ble_eq_true rfl) dX5_warmOrDrop_7 (Nat.zero_le _) (Nat.zero_le _) ?_
  refine g_iload_n C dX5_warmOrDrop_10 rfl 0 rfl ?_
  refine g_if_eq (tgt := 40) C dX5_warmOrDrop_11 (by decide) (fun h1 => ?_) (fun h1 => ?_)
  · exact g_vret C hret hlk e1 (e2.trans (congrArg (mk X ad) ((if_pos h1).trans rfl))) dX5_warmOrDrop_40
  · refine g_aload_n C dX5_warmOrDrop_14 rfl 1 rfl ?_
    refine g_aload_n C dX5_warmOrDrop_15 rfl 3 rfl ?_
    refine g_callV (rest := []) (st1 := [.int (f_X5_isOpen B b (f_X0_warmOrCool b ω))]) C (c_X5_isOpen B b hB hb (f_X0_warmOrCool b ω)) (cwV 1 C.hts gX5_warmOrDrop_X5_isOpen rfl rfl rfl md_X5_isOpen ⟨Nat.le_of_ble_eq_true rfl, Nat.le_of_ble_eq_true rfl⟩) (bS0 hB) (mk_1 (kS0 hB)) rfl rfl rfl rfl rfl (Nat.le_of_ble_eq_true rfl) dX5_warmOrDrop_16 (Nat.zero_le _) (Nat.zero_le _) ?_
    refine g_if_ne (tgt := 40) C dX5_warmOrDrop_19 (by decide) (fun h2 => ?_) (fun h2 => ?_)
    · exact g_vret C hret hlk e1 (e2.trans (congrArg (mk X ad) ((if_neg h1).trans ((if_neg h2).trans rfl)))) dX5_warmOrDrop_40
    · refine g_aload_n C dX5_warmOrDrop_22 rfl 3 rfl ?_
      refine g_iconst (v := 0) C dX5_warmOrDrop_23 (by decide) ?_
      refine g_put C iX0 tyX0 tyX0_ok nmX0 (hb).1 (mk_4 (hb).2) rfl 4 (by decide) L80 rfl (nar_b (by decide)).1 (nar_b (by decide)).2 (Nat.le_of_ble_eq_true rfl) dX5_warmOrDrop_24 ?_
      refine gv_eqG (mkp_4_4 (hb).2 (by decide)) ?_
      refine g_aload_n C dX5_warmOrDrop_27 rfl 1 rfl ?_
      refine g_get (v := .ref (ad (B + 11))) C iX5 (bS0 hB) (mk_1 (kS0 hB)) rfl 3 (by decide) L39 rfl dX5_warmOrDrop_28 ?_
      refine g_iconst (v := 2) C dX5_warmOrDrop_31 (by decide) ?_
      refine g_iload_n C dX5_warmOrDrop_32 rfl 2 rfl ?_
      refine g_aload_n C dX5_warmOrDrop_33 rfl 1 rfl ?_
      refine g_get (v := .int ((st (f_X0_warmOrCool b ω) b 4 0) B 4)) C iX5 (bS0 hB) (mk_1 (kS0 hB)) rfl 4 (by decide) L56 rfl dX5_warmOrDrop_34 ?_
      refine g_callV (rest := []) (st1 := []) C (c_X2_note (B + 11) 2 x ((st (f_X0_warmOrCool b ω) b 4 0) B 4) (hB).lg (by omega) (st (f_X0_warmOrCool b ω) b 4 0)) (cwV 3 C.hts gX5_warmOrDrop_X2_note rfl rfl rfl md_X2_note ⟨Nat.le_of_ble_eq_true rfl, Nat.le_of_ble_eq_true rfl⟩) (bS11 hB) (mk_6 (kS11 hB)) rfl rfl rfl rfl rfl (Nat.le_of_ble_eq_true rfl) dX5_warmOrDrop_37 (Nat.zero_le _) (Nat.zero_le _) ?_
      exact g_vret C hret hlk e1 (e2.trans (congrArg (mk X ad) ((if_neg h1).trans ((if_pos h2).trans rfl)))) dX5_warmOrDrop_40
abbrev rm_X5_flowsUnburnt : Room := { frames := 3, cells := 0, slots := 0, locals := 63 }
theorem md_X5_flowsUnburnt : yX5_flowsUnburnt.cls = RX5 ∧ yX5_flowsUnburnt.cls ≠ "java/lang/invoke/MethodHandle" ∧ yX5_flowsUnburnt.cls ≠ "java/lang/invoke/VarHandle" ∧ (parseMethodDescriptor yX5_flowsUnburnt.desc).map (fun d => d.parameters.length) = some 1 := by decide +kernel
def f_X5_flowsUnburnt (B : Nat) (b : Nat) (ω : Mem) : Int32 := (if (f_X5_isOpen B b ω) = 0 then 0 else (if (bb (ω b 4)) = 0 then 1 else 0))
set_option maxRecDepth 100000 in
set_option maxHeartbeats 4000000 in
theorem c_X5_flowsUnburnt {l_ : Launch} {sa : Nat → Nat} {D : va_G} {X : Nat → ClassId} {ad : Nat → Nat} (B : Nat) (b : Nat) (hB : isS B) (hb : isB b) (ω : Mem)  : CT l_ yX5_flowsUnburnt wsX5_flowsUnburnt rm_X5_flowsUnburnt sa D (tyX X) 120 ad (mk X ad ω) [.ref (ad B), .ref (ad b)] (some (.int (f_X5_flowsUnburnt B b ω)) : Option Value) (mk X ad ω) := by
  refine ct_of [(0, .ref (ad B)), (1, .ref (ad b))] (by decide +kernel) rfl rfl (Nat.le_of_ble_eq_true rfl) rfl ?_
  intro p_ e_ s_ m_ args_ below_ meth_ c_ C hret hlk hin
  have e1 : (some (.int (f_X5_flowsUnburnt B b ω)) : Option Value) = (some (.int (f_X5_flowsUnburnt B b ω)) : Option Value) := rfl
  have e2 : mk X ad ω = mk X ad ω := rfl
  have iX0 : ∀ w ∈ u_ws RX0 TX0 10, w ∈ wsX5_flowsUnburnt := by decide +kernel
  have L80 : Cond.fieldLink RX5 80 (TX0 4).1 (TX0 4).2.1 (TX0 4).2.2.1 ∈ wsX5_flowsUnburnt := by decide +kernel
  refine g_aload_n C dX5_flowsUnburnt_0 rfl 0 rfl ?_
  refine g_aload_n C dX5_flowsUnburnt_1 rfl 1 rfl ?_
  refine g_callV (rest := []) (st1 := [.int (f_X5_isOpen B b ω)]) C (c_X5_isOpen B b hB hb ω) (cwV 1 C.hts gX5_flowsUnburnt_X5_isOpen rfl rfl rfl md_X5_isOpen ⟨Nat.le_of_ble_eq_true rfl, Nat.le_of_ble_eq_true rfl⟩) (bS0 hB) (mk_1 (kS0 hB)) rfl rfl rfl rfl rfl (Nat.le_of_ble_eq_true rfl) dX5_flowsUnburnt_2 (Nat.zero_le _) (Nat.zero_le _) ?_
  refine g_if_eq (tgt := 19) C dX5_flowsUnburnt_5 (by decide) (fun h1 => ?_) (fun h1 => ?_)
  · refine g_iconst (v := 0) C dX5_flowsUnburnt_19 (by decide) ?_
    exact g_zret C hret hlk (nar_b (by decide)).1 (e1.trans (congrArg (fun z => some (Value.int z)) ((if_pos h1).trans rfl))) e2 dX5_flowsUnburnt_20
  · refine g_aload_n C dX5_flowsUnburnt_8 rfl 1 rfl ?_
    refine g_get (v := .int (bb (ω b 4))) C iX0 (hb).1 (mk_4 (hb).2) rfl 4 (by decide) L80 rfl dX5_flowsUnburnt_9 ?_
    refine g_if_ne (tgt := 19) C dX5_flowsUnburnt_12 (by decide) (fun h2 => ?_) (fun h2 => ?_)
    · refine g_iconst (v := 0) C dX5_flowsUnburnt_19 (by decide) ?_
      exact g_zret C hret hlk (nar_b (by decide)).1 (e1.trans (congrArg (fun z => some (Value.int z)) ((if_neg h1).trans ((if_neg h2).trans rfl)))) e2 dX5_flowsUnburnt_20
    · refine g_iconst (v := 1) C dX5_flowsUnburnt_15 (by decide) ?_
      refine g_goto (tgt := 20) C dX5_flowsUnburnt_16 (by decide) ?_
      exact g_zret C hret hlk (nar_b (by decide)).1 (e1.trans (congrArg (fun z => some (Value.int z)) ((if_neg h1).trans ((if_pos h2).trans rfl)))) e2 dX5_flowsUnburnt_20
theorem z_X5_flowsUnburnt {B : Nat} {b : Nat} {ω : Mem} : bb (f_X5_flowsUnburnt B b ω) = f_X5_flowsUnburnt B b ω := by
  unfold f_X5_flowsUnburnt
  repeat' split
  all_goals first | with_reducible exact z_X5_isOpen | with_reducible exact bb_bb _ | decide
abbrev rm_X5_flow : Room := { frames := 4, cells := 0, slots := 0, locals := 84 }
theorem md_X5_flow : yX5_flow.cls = RX5 ∧ yX5_flow.cls ≠ "java/lang/invoke/MethodHandle" ∧ yX5_flow.cls ≠ "java/lang/invoke/VarHandle" ∧ (parseMethodDescriptor yX5_flow.desc).map (fun d => d.parameters.length) = some 1 := by decide +kernel
def f_X5_flow_50 (B : Nat) (b : Nat) (ω : Mem) : Mem := (st ω B 7 (if (ω B 7) < (ω b 8) then (ω b 8) else (ω B 7)))
set_option maxRecDepth 100000 in
set_option maxHeartbeats 4000000 in
theorem k_X5_flow_50 {l_ : Launch} {p_ : Program} {e_ : Env} {s_ : State} {m_ : MethodId} {args_ : Array Value} {below_ : List Frame} {meth_ : Method} {c_ : Code} {sa : Nat → Nat} {D : va_G} {X : Nat → ClassId} {ad : Nat → Nat} {G0 : Nat → va_E} (B : Nat) (b : Nat) (hB : isS B) (hb : isB b) (C : GC p_ rm_X5_flow s_ m_ args_ meth_ c_ cX5_flow 2 wsX5_flow RX5 sa D (tyX X) (va_A (gw 120 ad G0) s_.heap.size)) (hret : meth_.sig.returnType = none) (hlk : meth_.locks = false) : ∀  (ω : Mem)  (rv : Option Value) (G2 : Nat → va_E) (e1 : rv = none) (e2 : G2 = mk X ad (f_X5_flow_50 B b ω)), GV p_ l_ e_ rm_X5_flow s_ m_ args_ below_ meth_ c_ 0 0 (CQ below_ args_ s_ D 120 ad G0 rv G2) D (va_A (gw 120 ad G0) s_.heap.size) 2 120 ad (mk X ad ω) [(0, .ref (ad B)), (1, .ref (ad b))] 50 [] := by
  have iX0 : ∀ w ∈ u_ws RX0 TX0 10, w ∈ wsX5_flow := by decide +kernel
  have iX5 : ∀ w ∈ u_ws RX5 TX5 8, w ∈ wsX5_flow := by decide +kernel
  have L146 : Cond.fieldLink RX5 146 (TX0 8).1 (TX0 8).2.1 (TX0 8).2.2.1 ∈ wsX5_flow := by decide +kernel
  have L66 : Cond.fieldLink RX5 66 (TX5 7).1 (TX5 7).2.1 (TX5 7).2.2.1 ∈ wsX5_flow := by decide +kernel
  have M113a : Cond.methodLink RX5 113 Lib.Math.max.name ∈ wsX5_flow := by decide +kernel
  have Mini : Cond.initialized "java/lang/Math" ∈ wsX5_flow := by decide +kernel
  have Mmaxb : Cond.static Lib.Math.max.name ∈ wsX5_flow := by decide +kernel
  have Mmaxc : Cond.code Lib.Math.max.name Lib.Math.max.code 2 (some .int) ∈ wsX5_flow := by decide +kernel
  intro ω rv G2 e1 e2
  refine g_aload_n C dX5_flow_50 rfl 0 rfl ?_
  refine g_aload_n C dX5_flow_51 rfl 0 rfl ?_
  refine g_get (v := .int (ω B 7)) C iX5 (bS0 hB) (mk_1 (kS0 hB)) rfl 7 (by decide) L66 rfl dX5_flow_52 ?_
  refine g_aload_n C dX5_flow_55 rfl 1 rfl ?_
  refine g_get (v := .int (ω b 8)) C iX0 (hb).1 (mk_4 (hb).2) rfl 8 (by decide) L146 rfl dX5_flow_56 ?_
  refine g_mmax (v := (if (ω B 7) < (ω b 8) then (ω b 8) else (ω B 7))) C M113a Mmaxb Mini Mmaxc (Nat.le_of_ble_eq_true rfl) (Nat.le_of_ble_eq_true rfl) (Nat.zero_le _) (Nat.zero_le _) dX5_flow_59 rfl ?_
  refine g_put C iX5 tyX5 tyX5_ok nmX5 (bS0 hB) (mk_1 (kS0 hB)) rfl 7 (by decide) L66 rfl rfl rfl (Nat.le_of_ble_eq_true rfl) dX5_flow_62 ?_
  refine gv_eqG (mkp_1_7 (kS0 hB)) ?_
  exact g_vret C hret hlk e1 (e2.trans (congrArg (mk X ad) rfl)) dX5_flow_65
def f_X5_flow_40 (B : Nat) (b : Nat) (ω : Mem) : Mem := (f_X5_flow_50 B b (st ω b 8 ((ω b 8) + 1)))
set_option maxRecDepth 100000 in
set_option maxHeartbeats 4000000 in
theorem k_X5_flow_40 {l_ : Launch} {p_ : Program} {e_ : Env} {s_ : State} {m_ : MethodId} {args_ : Array Value} {below_ : List Frame} {meth_ : Method} {c_ : Code} {sa : Nat → Nat} {D : va_G} {X : Nat → ClassId} {ad : Nat → Nat} {G0 : Nat → va_E} (B : Nat) (b : Nat) (hB : isS B) (hb : isB b) (C : GC p_ rm_X5_flow s_ m_ args_ meth_ c_ cX5_flow 2 wsX5_flow RX5 sa D (tyX X) (va_A (gw 120 ad G0) s_.heap.size)) (hret : meth_.sig.returnType = none) (hlk : meth_.locks = false) : ∀  (ω : Mem)  (rv : Option Value) (G2 : Nat → va_E) (e1 : rv = none) (e2 : G2 = mk X ad (f_X5_flow_40 B b ω)), GV p_ l_ e_ rm_X5_flow s_ m_ args_ below_ meth_ c_ 0 0 (CQ below_ args_ s_ D 120 ad G0 rv G2) D (va_A (gw 120 ad G0) s_.heap.size) 2 120 ad (mk X ad ω) [(0, .ref (ad B)), (1, .ref (ad b))] 40 [] := by
  have iX0 : ∀ w ∈ u_ws RX0 TX0 10, w ∈ wsX5_flow := by decide +kernel
  have L146 : Cond.fieldLink RX5 146 (TX0 8).1 (TX0 8).2.1 (TX0 8).2.2.1 ∈ wsX5_flow := by decide +kernel
  intro ω rv G2 e1 e2
  refine g_aload_n C dX5_flow_40 rfl 1 rfl ?_
  refine g_dup C dX5_flow_41 rfl ?_
  refine g_get (v := .int (ω b 8)) C iX0 (hb).1 (mk_4 (hb).2) rfl 8 (by decide) L146 rfl dX5_flow_42 ?_
  refine g_iconst (v := 1) C dX5_flow_45 (by decide) ?_
  refine g_iadd (v := ((ω b 8) + 1)) C dX5_flow_46 rfl ?_
  refine g_put C iX0 tyX0 tyX0_ok nmX0 (hb).1 (mk_4 (hb).2) rfl 8 (by decide) L146 rfl rfl rfl (Nat.le_of_ble_eq_true rfl) dX5_flow_47 ?_
  refine gv_eqG (mkp_4_8 (hb).2) ?_
  exact k_X5_flow_50 B b hB hb C hret hlk  (st ω b 8 ((ω b 8) + 1))  _ _ e1 (e2.trans (congrArg (mk X ad) rfl))
def f_X5_flow_27 (B : Nat) (b : Nat) (ω : Mem) : Mem := (f_X5_flow_40 B b (st ω b 9 ((ω b 9) + (f_X0_flow b ω))))
set_option maxRecDepth 100000 in
set_option maxHeartbeats 4000000 in
theorem k_X5_flow_27 {l_ : Launch} {p_ : Program} {e_ : Env} {s_ : State} {m_ : MethodId} {args_ : Array Value} {below_ : List Frame} {meth_ : Method} {c_ : Code} {sa : Nat → Nat} {D : va_G} {X : Nat → ClassId} {ad : Nat → Nat} {G0 : Nat → va_E} (B : Nat) (b : Nat) (hB : isS B) (hb : isB b) (C : GC p_ rm_X5_flow s_ m_ args_ meth_ c_ cX5_flow 2 wsX5_flow RX5 sa D (tyX X) (va_A (gw 120 ad G0) s_.heap.size)) (hret : meth_.sig.returnType = none) (hlk : meth_.locks = false) : ∀  (ω : Mem)  (rv : Option Value) (G2 : Nat → va_E) (e1 : rv = none) (e2 : G2 = mk X ad (f_X5_flow_27 B b ω)), GV p_ l_ e_ rm_X5_flow s_ m_ args_ below_ meth_ c_ 0 0 (CQ below_ args_ s_ D 120 ad G0 rv G2) D (va_A (gw 120 ad G0) s_.heap.size) 2 120 ad (mk X ad ω) [(0, .ref (ad B)), (1, .ref (ad b))] 27 [] := by
  have iX0 : ∀ w ∈ u_ws RX0 TX0 10, w ∈ wsX5_flow := by decide +kernel
  have L151 : Cond.fieldLink RX5 151 (TX0 9).1 (TX0 9).2.1 (TX0 9).2.2.1 ∈ wsX5_flow := by decide +kernel
  intro ω rv G2 e1 e2
  refine g_aload_n C dX5_flow_27 rfl 1 rfl ?_
  refine g_dup C dX5_flow_28 rfl ?_
  refine g_get (v := .int (ω b 9)) C iX0 (hb).1 (mk_4 (hb).2) rfl 9 (by decide) L151 rfl dX5_flow_29 ?_
  refine g_aload_n C dX5_flow_32 rfl 1 rfl ?_
  refine g_callV (rest := [.int (ω b 9), .ref (ad b)]) (st1 := [.int (f_X0_flow b ω), .int (ω b 9), .ref (ad b)]) C (c_X0_flow b hb ω) (cwV 0 C.hts gX5_flow_X0_flow rfl rfl rfl md_X0_flow ⟨Nat.le_of_ble_eq_true rfl, Nat.le_of_ble_eq_true rfl⟩) (hb).1 (mk_4 (hb).2) rfl rfl rfl rfl rfl (Nat.le_of_ble_eq_true rfl) dX5_flow_33 (Nat.zero_le _) (Nat.zero_le _) ?_
  refine g_iadd (v := ((ω b 9) + (f_X0_flow b ω))) C dX5_flow_36 rfl ?_
  refine g_put C iX0 tyX0 tyX0_ok nmX0 (hb).1 (mk_4 (hb).2) rfl 9 (by decide) L151 rfl rfl rfl (Nat.le_of_ble_eq_true rfl) dX5_flow_37 ?_
  refine gv_eqG (mkp_4_9 (hb).2) ?_
  exact k_X5_flow_40 B b hB hb C hret hlk  (st ω b 9 ((ω b 9) + (f_X0_flow b ω)))  _ _ e1 (e2.trans (congrArg (mk X ad) rfl))
def f_X5_flow (B : Nat) (b : Nat) (ω : Mem) : Mem := (if (f_X5_flowsUnburnt B b ω) = 0 then (st ω b 8 0) else (f_X5_flow_27 B b (st ω B 5 ((ω B 5) + (f_X0_flow b ω)))))
set_option maxRecDepth 100000 in
set_option maxHeartbeats 4000000 in
theorem c_X5_flow {l_ : Launch} {sa : Nat → Nat} {D : va_G} {X : Nat → ClassId} {ad : Nat → Nat} (B : Nat) (b : Nat) (hB : isS B) (hb : isB b) (ω : Mem)  : CT l_ yX5_flow wsX5_flow rm_X5_flow sa D (tyX X) 120 ad (mk X ad ω) [.ref (ad B), .ref (ad b)] (none : Option Value) (mk X ad (f_X5_flow B b ω)) := by
  refine ct_of [(0, .ref (ad B)), (1, .ref (ad b))] (by decide +kernel) rfl rfl (Nat.le_of_ble_eq_true rfl) rfl ?_
  intro p_ e_ s_ m_ args_ below_ meth_ c_ C hret hlk hin
  have e1 : (none : Option Value) = (none : Option Value) := rfl
  have e2 : mk X ad (f_X5_flow B b ω) = mk X ad (f_X5_flow B b ω) := rfl
  have iX0 : ∀ w ∈ u_ws RX0 TX0 10, w ∈ wsX5_flow := by decide +kernel
  have iX5 : ∀ w ∈ u_ws RX5 TX5 8, w ∈ wsX5_flow := by decide +kernel
  have L146 : Cond.fieldLink RX5 146 (TX0 8).1 (TX0 8).2.1 (TX0 8).2.2.1 ∈ wsX5_flow := by decide +kernel
  have L60 : Cond.fieldLink RX5 60 (TX5 5).1 (TX5 5).2.1 (TX5 5).2.2.1 ∈ wsX5_flow := by decide +kernel
  refine g_aload_n C dX5_flow_0 rfl 0 rfl ?_
  refine g_aload_n C dX5_flow_1 rfl 1 rfl ?_
  refine g_callV (rest := []) (st1 := [.int (f_X5_flowsUnburnt B b ω)]) C (c_X5_flowsUnburnt B b hB hb ω) (cwV 1 C.hts gX5_flow_X5_flowsUnburnt rfl rfl rfl md_X5_flowsUnburnt ⟨Nat.le_of_ble_eq_true rfl, Nat.le_of_ble_eq_true rfl⟩) (bS0 hB) (mk_1 (kS0 hB)) rfl rfl rfl rfl rfl (Nat.le_of_ble_eq_true rfl) dX5_flow_2 (Nat.zero_le _) (Nat.zero_le _) ?_
  refine g_if_ne (tgt := 14) C dX5_flow_5 (by decide) (fun h1 => ?_) (fun h1 => ?_)
  · refine g_aload_n C dX5_flow_14 rfl 0 rfl ?_
    refine g_dup C dX5_flow_15 rfl ?_
    refine g_get (v := .int (ω B 5)) C iX5 (bS0 hB) (mk_1 (kS0 hB)) rfl 5 (by decide) L60 rfl dX5_flow_16 ?_
    refine g_aload_n C dX5_flow_19 rfl 1 rfl ?_
    refine g_callV (rest := [.int (ω B 5), .ref (ad B)]) (st1 := [.int (f_X0_flow b ω), .int (ω B 5), .ref (ad B)]) C (c_X0_flow b hb ω) (cwV 0 C.hts gX5_flow_X0_flow rfl rfl rfl md_X0_flow ⟨Nat.le_of_ble_eq_true rfl, Nat.le_of_ble_eq_true rfl⟩) (hb).1 (mk_4 (hb).2) rfl rfl rfl rfl rfl (Nat.le_of_ble_eq_true rfl) dX5_flow_20 (Nat.zero_le _) (Nat.zero_le _) ?_
    refine g_iadd (v := ((ω B 5) + (f_X0_flow b ω))) C dX5_flow_23 rfl ?_
    refine g_put C iX5 tyX5 tyX5_ok nmX5 (bS0 hB) (mk_1 (kS0 hB)) rfl 5 (by decide) L60 rfl rfl rfl (Nat.le_of_ble_eq_true rfl) dX5_flow_24 ?_
    refine gv_eqG (mkp_1_5 (kS0 hB)) ?_
    exact k_X5_flow_27 B b hB hb C hret hlk  (st ω B 5 ((ω B 5) + (f_X0_flow b ω)))  _ _ e1 (e2.trans (congrArg (mk X ad) ((if_neg h1).trans rfl)))
  · refine g_aload_n C dX5_flow_8 rfl 1 rfl ?_
    refine g_iconst (v := 0) C dX5_flow_9 (by decide) ?_
    refine g_put C iX0 tyX0 tyX0_ok nmX0 (hb).1 (mk_4 (hb).2) rfl 8 (by decide) L146 rfl rfl rfl (Nat.le_of_ble_eq_true rfl) dX5_flow_10 ?_
    refine gv_eqG (mkp_4_8 (hb).2) ?_
    exact g_vret C hret hlk e1 (e2.trans (congrArg (mk X ad) ((if_pos h1).trans rfl))) dX5_flow_13
abbrev rm_X5_passTick : Room := { frames := 5, cells := 0, slots := 0, locals := 107 }
theorem md_X5_passTick : yX5_passTick.cls = RX5 ∧ yX5_passTick.cls ≠ "java/lang/invoke/MethodHandle" ∧ yX5_passTick.cls ≠ "java/lang/invoke/VarHandle" ∧ (parseMethodDescriptor yX5_passTick.desc).map (fun d => d.parameters.length) = some 0 := by decide +kernel
def f_X5_passTick_106 (B : Nat) (v1 : Int32) (v2 : Int32) (ω : Mem) : Mem := (st ω B 4 ((ω B 4) + 1))
set_option maxRecDepth 100000 in
set_option maxHeartbeats 4000000 in
theorem k_X5_passTick_106 {l_ : Launch} {p_ : Program} {e_ : Env} {s_ : State} {m_ : MethodId} {args_ : Array Value} {below_ : List Frame} {meth_ : Method} {c_ : Code} {sa : Nat → Nat} {D : va_G} {X : Nat → ClassId} {ad : Nat → Nat} {G0 : Nat → va_E} (B : Nat) (hB : isS B) (C : GC p_ rm_X5_passTick s_ m_ args_ meth_ c_ cX5_passTick 5 wsX5_passTick RX5 sa D (tyX X) (va_A (gw 120 ad G0) s_.heap.size)) (hret : meth_.sig.returnType = none) (hlk : meth_.locks = false) : ∀ (v1 : Int32) (v2 : Int32) (ω : Mem)  (rv : Option Value) (G2 : Nat → va_E) (e1 : rv = none) (e2 : G2 = mk X ad (f_X5_passTick_106 B v1 v2 ω)), GV p_ l_ e_ rm_X5_passTick s_ m_ args_ below_ meth_ c_ 0 0 (CQ below_ args_ s_ D 120 ad G0 rv G2) D (va_A (gw 120 ad G0) s_.heap.size) 5 120 ad (mk X ad ω) [(0, .ref (ad B)), (1, .int v1), (2, .int v2), (3, .int 4), (4, .ref (ad (B + 7)))] 106 [] := by
  have iX5 : ∀ w ∈ u_ws RX5 TX5 8, w ∈ wsX5_passTick := by decide +kernel
  have L56 : Cond.fieldLink RX5 56 (TX5 4).1 (TX5 4).2.1 (TX5 4).2.2.1 ∈ wsX5_passTick := by decide +kernel
  intro v1 v2 ω rv G2 e1 e2
  refine g_aload_n C dX5_passTick_106 rfl 0 rfl ?_
  refine g_dup C dX5_passTick_107 rfl ?_
  refine g_get (v := .int (ω B 4)) C iX5 (bS0 hB) (mk_1 (kS0 hB)) rfl 4 (by decide) L56 rfl dX5_passTick_108 ?_
  refine g_iconst (v := 1) C dX5_passTick_111 (by decide) ?_
  refine g_iadd (v := ((ω B 4) + 1)) C dX5_passTick_112 rfl ?_
  refine g_put C iX5 tyX5 tyX5_ok nmX5 (bS0 hB) (mk_1 (kS0 hB)) rfl 4 (by decide) L56 rfl rfl rfl (Nat.le_of_ble_eq_true rfl) dX5_passTick_113 ?_
  refine gv_eqG (mkp_1_4 (kS0 hB)) ?_
  exact g_vret C hret hlk e1 (e2.trans (congrArg (mk X ad) rfl)) dX5_passTick_116
def f_X5_passTick_83 (B : Nat) (v1 : Int32) (v2 : Int32) (ω : Mem) : Mem := (f_X5_passTick_106 B v1 v2 (st ω B 5 (if 0 < (((ω B 5) - (f_X4_valueOf (B + 1) 2 ω)) - v1) then (((ω B 5) - (f_X4_valueOf (B + 1) 2 ω)) - v1) else 0)))
set_option maxRecDepth 100000 in
set_option maxHeartbeats 4000000 in
theorem k_X5_passTick_83 {l_ : Launch} {p_ : Program} {e_ : Env} {s_ : State} {m_ : MethodId} {args_ : Array Value} {below_ : List Frame} {meth_ : Method} {c_ : Code} {sa : Nat → Nat} {D : va_G} {X : Nat → ClassId} {ad : Nat → Nat} {G0 : Nat → va_E} (B : Nat) (hB : isS B) (C : GC p_ rm_X5_passTick s_ m_ args_ meth_ c_ cX5_passTick 5 wsX5_passTick RX5 sa D (tyX X) (va_A (gw 120 ad G0) s_.heap.size)) (hret : meth_.sig.returnType = none) (hlk : meth_.locks = false) : ∀ (v1 : Int32) (v2 : Int32) (ω : Mem)  (rv : Option Value) (G2 : Nat → va_E) (e1 : rv = none) (e2 : G2 = mk X ad (f_X5_passTick_83 B v1 v2 ω)), GV p_ l_ e_ rm_X5_passTick s_ m_ args_ below_ meth_ c_ 0 0 (CQ below_ args_ s_ D 120 ad G0 rv G2) D (va_A (gw 120 ad G0) s_.heap.size) 5 120 ad (mk X ad ω) [(0, .ref (ad B)), (1, .int v1), (2, .int v2), (3, .int 4), (4, .ref (ad (B + 7)))] 83 [] := by
  have iX5 : ∀ w ∈ u_ws RX5 TX5 8, w ∈ wsX5_passTick := by decide +kernel
  have L10 : Cond.fieldLink RX5 10 (TX5 0).1 (TX5 0).2.1 (TX5 0).2.2.1 ∈ wsX5_passTick := by decide +kernel
  have L60 : Cond.fieldLink RX5 60 (TX5 5).1 (TX5 5).2.1 (TX5 5).2.2.1 ∈ wsX5_passTick := by decide +kernel
  have M113a : Cond.methodLink RX5 113 Lib.Math.max.name ∈ wsX5_passTick := by decide +kernel
  have Mini : Cond.initialized "java/lang/Math" ∈ wsX5_passTick := by decide +kernel
  have Mmaxb : Cond.static Lib.Math.max.name ∈ wsX5_passTick := by decide +kernel
  have Mmaxc : Cond.code Lib.Math.max.name Lib.Math.max.code 2 (some .int) ∈ wsX5_passTick := by decide +kernel
  intro v1 v2 ω rv G2 e1 e2
  refine g_aload_n C dX5_passTick_83 rfl 0 rfl ?_
  refine g_iconst (v := 0) C dX5_passTick_84 (by decide) ?_
  refine g_aload_n C dX5_passTick_85 rfl 0 rfl ?_
  refine g_get (v := .int (ω B 5)) C iX5 (bS0 hB) (mk_1 (kS0 hB)) rfl 5 (by decide) L60 rfl dX5_passTick_86 ?_
  refine g_aload_n C dX5_passTick_89 rfl 0 rfl ?_
  refine g_get (v := .ref (ad (B + 1))) C iX5 (bS0 hB) (mk_1 (kS0 hB)) rfl 0 (by decide) L10 rfl dX5_passTick_90 ?_
  refine g_iconst (v := 2) C dX5_passTick_93 (by decide) ?_
  refine g_callV (rest := [.int (ω B 5), .int 0, .ref (ad B)]) (st1 := [.int (f_X4_valueOf (B + 1) 2 ω), .int (ω B 5), .int 0, .ref (ad B)]) C (c_X4_valueOf (B + 1) 2 (hB).set ω) (cwV 1 C.hts gX5_passTick_X4_valueOf rfl rfl rfl md_X4_valueOf ⟨Nat.le_of_ble_eq_true rfl, Nat.le_of_ble_eq_true rfl⟩) (bS1 hB) (mk_2 (kS1 hB)) rfl rfl rfl rfl rfl (Nat.le_of_ble_eq_true rfl) dX5_passTick_94 (Nat.zero_le _) (Nat.zero_le _) ?_
  refine g_isub (v := ((ω B 5) - (f_X4_valueOf (B + 1) 2 ω))) C dX5_passTick_97 rfl ?_
  refine g_iload_n C dX5_passTick_98 rfl 1 rfl ?_
  refine g_isub (v := (((ω B 5) - (f_X4_valueOf (B + 1) 2 ω)) - v1)) C dX5_passTick_99 rfl ?_
  refine g_mmax (v := (if 0 < (((ω B 5) - (f_X4_valueOf (B + 1) 2 ω)) - v1) then (((ω B 5) - (f_X4_valueOf (B + 1) 2 ω)) - v1) else 0)) C M113a Mmaxb Mini Mmaxc (Nat.le_of_ble_eq_true rfl) (Nat.le_of_ble_eq_true rfl) (Nat.zero_le _) (Nat.zero_le _) dX5_passTick_100 rfl ?_
  refine g_put C iX5 tyX5 tyX5_ok nmX5 (bS0 hB) (mk_1 (kS0 hB)) rfl 5 (by decide) L60 rfl rfl rfl (Nat.le_of_ble_eq_true rfl) dX5_passTick_103 ?_
  refine gv_eqG (mkp_1_5 (kS0 hB)) ?_
  exact k_X5_passTick_106 B hB C hret hlk v1 v2 (st ω B 5 (if 0 < (((ω B 5) - (f_X4_valueOf (B + 1) 2 ω)) - v1) then (((ω B 5) - (f_X4_valueOf (B + 1) 2 ω)) - v1) else 0))  _ _ e1 (e2.trans (congrArg (mk X ad) rfl))
def f_X5_passTick_68 (B : Nat) (v1 : Int32) (v2 : Int32) (ω : Mem) : Mem := (f_X5_passTick_83 B v1 v2 (st ω B 6 (if (ω B 6) < (ω B 5) then (ω B 5) else (ω B 6))))
set_option maxRecDepth 100000 in
set_option maxHeartbeats 4000000 in
theorem k_X5_passTick_68 {l_ : Launch} {p_ : Program} {e_ : Env} {s_ : State} {m_ : MethodId} {args_ : Array Value} {below_ : List Frame} {meth_ : Method} {c_ : Code} {sa : Nat → Nat} {D : va_G} {X : Nat → ClassId} {ad : Nat → Nat} {G0 : Nat → va_E} (B : Nat) (hB : isS B) (C : GC p_ rm_X5_passTick s_ m_ args_ meth_ c_ cX5_passTick 5 wsX5_passTick RX5 sa D (tyX X) (va_A (gw 120 ad G0) s_.heap.size)) (hret : meth_.sig.returnType = none) (hlk : meth_.locks = false) : ∀ (v1 : Int32) (v2 : Int32) (ω : Mem)  (rv : Option Value) (G2 : Nat → va_E) (e1 : rv = none) (e2 : G2 = mk X ad (f_X5_passTick_68 B v1 v2 ω)), GV p_ l_ e_ rm_X5_passTick s_ m_ args_ below_ meth_ c_ 0 0 (CQ below_ args_ s_ D 120 ad G0 rv G2) D (va_A (gw 120 ad G0) s_.heap.size) 5 120 ad (mk X ad ω) [(0, .ref (ad B)), (1, .int v1), (2, .int v2), (3, .int 4), (4, .ref (ad (B + 7)))] 68 [] := by
  have iX5 : ∀ w ∈ u_ws RX5 TX5 8, w ∈ wsX5_passTick := by decide +kernel
  have L60 : Cond.fieldLink RX5 60 (TX5 5).1 (TX5 5).2.1 (TX5 5).2.2.1 ∈ wsX5_passTick := by decide +kernel
  have L63 : Cond.fieldLink RX5 63 (TX5 6).1 (TX5 6).2.1 (TX5 6).2.2.1 ∈ wsX5_passTick := by decide +kernel
  have M113a : Cond.methodLink RX5 113 Lib.Math.max.name ∈ wsX5_passTick := by decide +kernel
  have Mini : Cond.initialized "java/lang/Math" ∈ wsX5_passTick := by decide +kernel
  have Mmaxb : Cond.static Lib.Math.max.name ∈ wsX5_passTick := by decide +kernel
  have Mmaxc : Cond.code Lib.Math.max.name Lib.Math.max.code 2 (some .int) ∈ wsX5_passTick := by decide +kernel
  intro v1 v2 ω rv G2 e1 e2
  refine g_aload_n C dX5_passTick_68 rfl 0 rfl ?_
  refine g_aload_n C dX5_passTick_69 rfl 0 rfl ?_
  refine g_get (v := .int (ω B 6)) C iX5 (bS0 hB) (mk_1 (kS0 hB)) rfl 6 (by decide) L63 rfl dX5_passTick_70 ?_
  refine g_aload_n C dX5_passTick_73 rfl 0 rfl ?_
  refine g_get (v := .int (ω B 5)) C iX5 (bS0 hB) (mk_1 (kS0 hB)) rfl 5 (by decide) L60 rfl dX5_passTick_74 ?_
  refine g_mmax (v := (if (ω B 6) < (ω B 5) then (ω B 5) else (ω B 6))) C M113a Mmaxb Mini Mmaxc (Nat.le_of_ble_eq_true rfl) (Nat.le_of_ble_eq_true rfl) (Nat.zero_le _) (Nat.zero_le _) dX5_passTick_77 rfl ?_
  refine g_put C iX5 tyX5 tyX5_ok nmX5 (bS0 hB) (mk_1 (kS0 hB)) rfl 6 (by decide) L63 rfl rfl rfl (Nat.le_of_ble_eq_true rfl) dX5_passTick_80 ?_
  refine gv_eqG (mkp_1_6 (kS0 hB)) ?_
  exact k_X5_passTick_83 B hB C hret hlk v1 v2 (st ω B 6 (if (ω B 6) < (ω B 5) then (ω B 5) else (ω B 6)))  _ _ e1 (e2.trans (congrArg (mk X ad) rfl))
def f_X5_passTick (B : Nat) (ω : Mem) : Mem := (if (f_X5_allowsFire B ω) = 0 then (f_X5_passTick_68 B (f_X5_draft B ω) (f_X5_allowsFire B ω) (f_X5_flow B (B + 7) (f_X5_warmOrDrop B 3 (B + 7) (f_X5_blow B 3 (B + 7) (f_X5_draft B ω) (f_X5_flow B (B + 6) (f_X5_warmOrDrop B 2 (B + 6) (f_X5_blow B 2 (B + 6) (f_X5_draft B ω) (f_X5_flow B (B + 5) (f_X5_warmOrDrop B 1 (B + 5) (f_X5_blow B 1 (B + 5) (f_X5_draft B ω) (f_X5_flow B (B + 4) (f_X5_warmOrDrop B 0 (B + 4) (f_X5_blow B 0 (B + 4) (f_X5_draft B ω) ω))))))))))))) else (f_X5_passTick_68 B (f_X5_draft B ω) (f_X5_allowsFire B ω) (f_X5_flow B (B + 7) (f_X5_warmOrDrop B 3 (B + 7) (f_X5_spark B 3 (B + 7) (f_X5_draft B ω) (f_X5_blow B 3 (B + 7) (f_X5_draft B ω) (f_X5_flow B (B + 6) (f_X5_warmOrDrop B 2 (B + 6) (f_X5_spark B 2 (B + 6) (f_X5_draft B ω) (f_X5_blow B 2 (B + 6) (f_X5_draft B ω) (f_X5_flow B (B + 5) (f_X5_warmOrDrop B 1 (B + 5) (f_X5_spark B 1 (B + 5) (f_X5_draft B ω) (f_X5_blow B 1 (B + 5) (f_X5_draft B ω) (f_X5_flow B (B + 4) (f_X5_warmOrDrop B 0 (B + 4) (f_X5_spark B 0 (B + 4) (f_X5_draft B ω) (f_X5_blow B 0 (B + 4) (f_X5_draft B ω) ω))))))))))))))))))
set_option maxRecDepth 100000 in
set_option maxHeartbeats 4000000 in
theorem c_X5_passTick {l_ : Launch} {sa : Nat → Nat} {D : va_G} {X : Nat → ClassId} {ad : Nat → Nat} (B : Nat) (hB : isS B) (ω : Mem)  : CT l_ yX5_passTick wsX5_passTick rm_X5_passTick sa D (tyX X) 120 ad (mk X ad ω) [.ref (ad B)] (none : Option Value) (mk X ad (f_X5_passTick B ω)) := by
  refine ct_of [(0, .ref (ad B))] (by decide +kernel) rfl rfl (Nat.le_of_ble_eq_true rfl) rfl ?_
  intro p_ e_ s_ m_ args_ below_ meth_ c_ C hret hlk hin
  have e1 : (none : Option Value) = (none : Option Value) := rfl
  have e2 : mk X ad (f_X5_passTick B ω) = mk X ad (f_X5_passTick B ω) := rfl
  have iX5 : ∀ w ∈ u_ws RX5 TX5 8, w ∈ wsX5_passTick := by decide +kernel
  have L22 : Cond.fieldLink RX5 22 (TX5 1).1 (TX5 1).2.1 (TX5 1).2.2.1 ∈ wsX5_passTick := by decide +kernel
  refine g_aload_n C dX5_passTick_0 rfl 0 rfl ?_
  refine g_callV (rest := []) (st1 := [.int (f_X5_draft B ω)]) C (c_X5_draft B hB ω) (cwV 0 C.hts gX5_passTick_X5_draft rfl rfl rfl md_X5_draft ⟨Nat.le_of_ble_eq_true rfl, Nat.le_of_ble_eq_true rfl⟩) (bS0 hB) (mk_1 (kS0 hB)) rfl rfl rfl rfl rfl (Nat.le_of_ble_eq_true rfl) dX5_passTick_1 (Nat.zero_le _) (Nat.zero_le _) ?_
  refine g_istore_n (lv' := [(1, .int (f_X5_draft B ω)), (0, .ref (ad B))]) C dX5_passTick_4 rfl (by decide) rfl ?_
  refine g_aload_n C dX5_passTick_5 rfl 1 rfl ?_
  refine g_callV (rest := []) (st1 := [.int (f_X5_allowsFire B ω)]) C (c_X5_allowsFire B hB ω) (cwV 0 C.hts gX5_passTick_X5_allowsFire rfl rfl rfl md_X5_allowsFire ⟨Nat.le_of_ble_eq_true rfl, Nat.le_of_ble_eq_true rfl⟩) (bS0 hB) (mk_1 (kS0 hB)) rfl rfl rfl rfl rfl (Nat.le_of_ble_eq_true rfl) dX5_passTick_6 (Nat.zero_le _) (Nat.zero_le _) ?_
  refine g_istore_n (lv' := [(2, .int (f_X5_allowsFire B ω)), (1, .int (f_X5_draft B ω)), (0, .ref (ad B))]) C dX5_passTick_9 rfl (by decide) rfl ?_
  refine g_iconst (v := 0) C dX5_passTick_10 (by decide) ?_
  refine g_istore_n (lv' := [(3, .int 0), (2, .int (f_X5_allowsFire B ω)), (1, .int (f_X5_draft B ω)), (0, .ref (ad B))]) C dX5_passTick_11 rfl (by decide) rfl ?_
  refine g_iload_n C dX5_passTick_12 rfl 0 rfl ?_
  refine g_aload_n C dX5_passTick_13 rfl 3 rfl ?_
  refine g_get (v := .ref (ad (B + 3))) C iX5 (bS0 hB) (mk_1 (kS0 hB)) rfl 1 (by decide) L22 rfl dX5_passTick_14 ?_
  refine g_alen (v := 4) C 2 (bS3 hB) (mk_3 (kS3 hB)) rfl rfl dX5_passTick_17 ?_
  refine g_icmp_ge (tgt := 68) C dX5_passTick_18 (by decide) (fun z => absurd z (by decide)) (fun _ => ?_)
  refine g_aload_n C dX5_passTick_21 rfl 3 rfl ?_
  refine g_get (v := .ref (ad (B + 3))) C iX5 (bS0 hB) (mk_1 (kS0 hB)) rfl 1 (by decide) L22 rfl dX5_passTick_22 ?_
  refine g_iload_n C dX5_passTick_25 rfl 0 rfl ?_
  refine g_aldq (k := 0) (v := .ref (ad (B + 4))) C 2 (bS3 hB) (mk_3 (kS3 hB)) rfl (by unfold vp_in; decide) rfl rfl dX5_passTick_26 ?_
  refine g_astore (lv' := [(4, .ref (ad (B + 4))), (3, .int 0), (2, .int (f_X5_allowsFire B ω)), (1, .int (f_X5_draft B ω)), (0, .ref (ad B))]) C dX5_passTick_27 (by decide) rfl ?_
  refine g_aload_n C dX5_passTick_29 rfl 4 rfl ?_
  refine g_iload_n C dX5_passTick_30 rfl 1 rfl ?_
  refine g_aload C dX5_passTick_31 0 rfl ?_
  refine g_iload_n C dX5_passTick_33 rfl 3 rfl ?_
  refine g_callV (rest := []) (st1 := []) C (c_X5_blow B 0 (B + 4) (f_X5_draft B ω) hB (hB).b0 ω) (cwV 3 C.hts gX5_passTick_X5_blow rfl rfl rfl md_X5_blow ⟨Nat.le_of_ble_eq_true rfl, Nat.le_of_ble_eq_true rfl⟩) (bS0 hB) (mk_1 (kS0 hB)) rfl rfl rfl rfl rfl (Nat.le_of_ble_eq_true rfl) dX5_passTick_34 (Nat.zero_le _) (Nat.zero_le _) ?_
  refine g_iload_n C dX5_passTick_37 rfl 2 rfl ?_
  refine g_if_eq (tgt := 49) C dX5_passTick_38 (by decide) (fun h1 => ?_) (fun h1 => ?_)
  · refine g_aload_n C dX5_passTick_49 rfl 4 rfl ?_
    refine g_iload_n C dX5_passTick_50 rfl 1 rfl ?_
    refine g_aload C dX5_passTick_51 0 rfl ?_
    refine g_callV (rest := []) (st1 := []) C (c_X5_warmOrDrop B 0 (B + 4) hB (hB).b0 (f_X5_blow B 0 (B + 4) (f_X5_draft B ω) ω)) (cwV 2 C.hts gX5_passTick_X5_warmOrDrop rfl rfl rfl md_X5_warmOrDrop ⟨Nat.le_of_ble_eq_true rfl, Nat.le_of_ble_eq_true rfl⟩) (bS0 hB) (mk_1 (kS0 hB)) rfl rfl rfl rfl rfl (Nat.le_of_ble_eq_true rfl) dX5_passTick_53 (Nat.zero_le _) (Nat.zero_le _) ?_
    refine g_aload_n C dX5_passTick_56 rfl 4 rfl ?_
    refine g_aload C dX5_passTick_57 0 rfl ?_
    refine g_callV (rest := []) (st1 := []) C (c_X5_flow B (B + 4) hB (hB).b0 (f_X5_warmOrDrop B 0 (B + 4) (f_X5_blow B 0 (B + 4) (f_X5_draft B ω) ω))) (cwV 1 C.hts gX5_passTick_X5_flow rfl rfl rfl md_X5_flow ⟨Nat.le_of_ble_eq_true rfl, Nat.le_of_ble_eq_true rfl⟩) (bS0 hB) (mk_1 (kS0 hB)) rfl rfl rfl rfl rfl (Nat.le_of_ble_eq_true rfl) dX5_passTick_59 (Nat.zero_le _) (Nat.zero_le _) ?_
    refine g_iinc (k := 1) (v := 1) (lv' := [(3, .int 1), (4, .ref (ad (B + 4))), (2, .int (f_X5_allowsFire B ω)), (1, .int (f_X5_draft B ω)), (0, .ref (ad B))]) C dX5_passTick_62 rfl (by decide) (by decide) rfl ?_
    refine g_goto (tgt := 12) C dX5_passTick_65 (by decide) ?_
    refine g_iload_n C dX5_passTick_12 rfl 0 rfl ?_
    refine g_aload_n C dX5_passTick_13 rfl 4 rfl ?_
    refine g_get (v := .ref (ad (B + 3))) C iX5 (bS0 hB) (mk_1 (kS0 hB)) rfl 1 (by decide) L22 rfl dX5_passTick_14 ?_
    refine g_alen (v := 4) C 2 (bS3 hB) (mk_3 (kS3 hB)) rfl rfl dX5_passTick_17 ?_
    refine g_icmp_ge (tgt := 68) C dX5_passTick_18 (by decide) (fun z => absurd z (by decide)) (fun _ => ?_)
    refine g_aload_n C dX5_passTick_21 rfl 4 rfl ?_
    refine g_get (v := .ref (ad (B + 3))) C iX5 (bS0 hB) (mk_1 (kS0 hB)) rfl 1 (by decide) L22 rfl dX5_passTick_22 ?_
    refine g_iload_n C dX5_passTick_25 rfl 0 rfl ?_
    refine g_aldq (k := 1) (v := .ref (ad (B + 5))) C 2 (bS3 hB) (mk_3 (kS3 hB)) rfl (by unfold vp_in; decide) rfl rfl dX5_passTick_26 ?_
    refine g_astore (lv' := [(4, .ref (ad (B + 5))), (3, .int 1), (2, .int (f_X5_allowsFire B ω)), (1, .int (f_X5_draft B ω)), (0, .ref (ad B))]) C dX5_passTick_27 (by decide) rfl ?_
    refine g_aload_n C dX5_passTick_29 rfl 4 rfl ?_
    refine g_iload_n C dX5_passTick_30 rfl 1 rfl ?_
    refine g_aload C dX5_passTick_31 0 rfl ?_
    refine g_iload_n C dX5_passTick_33 rfl 3 rfl ?_
    refine g_callV (rest := []) (st1 := []) C (c_X5_blow B 1 (B + 5) (f_X5_draft B ω) hB (hB).b1 (f_X5_flow B (B + 4) (f_X5_warmOrDrop B 0 (B + 4) (f_X5_blow B 0 (B + 4) (f_X5_draft B ω) ω)))) (cwV 3 C.hts gX5_passTick_X5_blow rfl rfl rfl md_X5_blow ⟨Nat.le_of_ble_eq_true rfl, Nat.le_of_ble_eq_true rfl⟩) (bS0 hB) (mk_1 (kS0 hB)) rfl rfl rfl rfl rfl (Nat.le_of_ble_eq_true rfl) dX5_passTick_34 (Nat.zero_le _) (Nat.zero_le _) ?_
    refine g_iload_n C dX5_passTick_37 rfl 2 rfl ?_
    refine g_if_eq (tgt := 49) C dX5_passTick_38 (by decide) (fun _ => ?_) (fun z => absurd h1 z)
    refine g_aload_n C dX5_passTick_49 rfl 4 rfl ?_
    refine g_iload_n C dX5_passTick_50 rfl 1 rfl ?_
    refine g_aload C dX5_passTick_51 0 rfl ?_
    refine g_callV (rest := []) (st1 := []) C (c_X5_warmOrDrop B 1 (B + 5) hB (hB).b1 (f_X5_blow B 1 (B + 5) (f_X5_draft B ω) (f_X5_flow B (B + 4) (f_X5_warmOrDrop B 0 (B + 4) (f_X5_blow B 0 (B + 4) (f_X5_draft B ω) ω))))) (cwV 2 C.hts gX5_passTick_X5_warmOrDrop rfl rfl rfl md_X5_warmOrDrop ⟨Nat.le_of_ble_eq_true rfl, Nat.le_of_ble_eq_true rfl⟩) (bS0 hB) (mk_1 (kS0 hB)) rfl rfl rfl rfl rfl (Nat.le_of_ble_eq_true rfl) dX5_passTick_53 (Nat.zero_le _) (Nat.zero_le _) ?_
    refine g_aload_n C dX5_passTick_56 rfl 4 rfl ?_
    refine g_aload C dX5_passTick_57 0 rfl ?_
    refine g_callV (rest := []) (st1 := []) C (c_X5_flow B (B + 5) hB (hB).b1 (f_X5_warmOrDrop B 1 (B + 5) (f_X5_blow B 1 (B + 5) (f_X5_draft B ω) (f_X5_flow B (B + 4) (f_X5_warmOrDrop B 0 (B + 4) (f_X5_blow B 0 (B + 4) (f_X5_draft B ω) ω)))))) (cwV 1 C.hts gX5_passTick_X5_flow rfl rfl rfl md_X5_flow ⟨Nat.le_of_ble_eq_true rfl, Nat.le_of_ble_eq_true rfl⟩) (bS0 hB) (mk_1 (kS0 hB)) rfl rfl rfl rfl rfl (Nat.le_of_ble_eq_true rfl) dX5_passTick_59 (Nat.zero_le _) (Nat.zero_le _) ?_
    refine g_iinc (k := 1) (v := 2) (lv' := [(3, .int 2), (4, .ref (ad (B + 5))), (2, .int (f_X5_allowsFire B ω)), (1, .int (f_X5_draft B ω)), (0, .ref (ad B))]) C dX5_passTick_62 rfl (by decide) (by decide) rfl ?_
    refine g_goto (tgt := 12) C dX5_passTick_65 (by decide) ?_
    refine g_iload_n C dX5_passTick_12 rfl 0 rfl ?_
    refine g_aload_n C dX5_passTick_13 rfl 4 rfl ?_
    refine g_get (v := .ref (ad (B + 3))) C iX5 (bS0 hB) (mk_1 (kS0 hB)) rfl 1 (by decide) L22 rfl dX5_passTick_14 ?_
    refine g_alen (v := 4) C 2 (bS3 hB) (mk_3 (kS3 hB)) rfl rfl dX5_passTick_17 ?_
    refine g_icmp_ge (tgt := 68) C dX5_passTick_18 (by decide) (fun z => absurd z (by decide)) (fun _ => ?_)
    refine g_aload_n C dX5_passTick_21 rfl 4 rfl ?_
    refine g_get (v := .ref (ad (B + 3))) C iX5 (bS0 hB) (mk_1 (kS0 hB)) rfl 1 (by decide) L22 rfl dX5_passTick_22 ?_
    refine g_iload_n C dX5_passTick_25 rfl 0 rfl ?_
    refine g_aldq (k := 2) (v := .ref (ad (B + 6))) C 2 (bS3 hB) (mk_3 (kS3 hB)) rfl (by unfold vp_in; decide) rfl rfl dX5_passTick_26 ?_
    refine g_astore (lv' := [(4, .ref (ad (B + 6))), (3, .int 2), (2, .int (f_X5_allowsFire B ω)), (1, .int (f_X5_draft B ω)), (0, .ref (ad B))]) C dX5_passTick_27 (by decide) rfl ?_
    refine g_aload_n C dX5_passTick_29 rfl 4 rfl ?_
    refine g_iload_n C dX5_passTick_30 rfl 1 rfl ?_
    refine g_aload C dX5_passTick_31 0 rfl ?_
    refine g_iload_n C dX5_passTick_33 rfl 3 rfl ?_
    refine g_callV (rest := []) (st1 := []) C (c_X5_blow B 2 (B + 6) (f_X5_draft B ω) hB (hB).b2 (f_X5_flow B (B + 5) (f_X5_warmOrDrop B 1 (B + 5) (f_X5_blow B 1 (B + 5) (f_X5_draft B ω) (f_X5_flow B (B + 4) (f_X5_warmOrDrop B 0 (B + 4) (f_X5_blow B 0 (B + 4) (f_X5_draft B ω) ω))))))) (cwV 3 C.hts gX5_passTick_X5_blow rfl rfl rfl md_X5_blow ⟨Nat.le_of_ble_eq_true rfl, Nat.le_of_ble_eq_true rfl⟩) (bS0 hB) (mk_1 (kS0 hB)) rfl rfl rfl rfl rfl (Nat.le_of_ble_eq_true rfl) dX5_passTick_34 (Nat.zero_le _) (Nat.zero_le _) ?_
    refine g_iload_n C dX5_passTick_37 rfl 2 rfl ?_
    refine g_if_eq (tgt := 49) C dX5_passTick_38 (by decide) (fun _ => ?_) (fun z => absurd h1 z)
    refine g_aload_n C dX5_passTick_49 rfl 4 rfl ?_
    refine g_iload_n C dX5_passTick_50 rfl 1 rfl ?_
    refine g_aload C dX5_passTick_51 0 rfl ?_
    refine g_callV (rest := []) (st1 := []) C (c_X5_warmOrDrop B 2 (B + 6) hB (hB).b2 (f_X5_blow B 2 (B + 6) (f_X5_draft B ω) (f_X5_flow B (B + 5) (f_X5_warmOrDrop B 1 (B + 5) (f_X5_blow B 1 (B + 5) (f_X5_draft B ω) (f_X5_flow B (B + 4) (f_X5_warmOrDrop B 0 (B + 4) (f_X5_blow B 0 (B + 4) (f_X5_draft B ω) ω)))))))) (cwV 2 C.hts gX5_passTick_X5_warmOrDrop rfl rfl rfl md_X5_warmOrDrop ⟨Nat.le_of_ble_eq_true rfl, Nat.le_of_ble_eq_true rfl⟩) (bS0 hB) (mk_1 (kS0 hB)) rfl rfl rfl rfl rfl (Nat.le_of_ble_eq_true rfl) dX5_passTick_53 (Nat.zero_le _) (Nat.zero_le _) ?_
    refine g_aload_n C dX5_passTick_56 rfl 4 rfl ?_
    refine g_aload C dX5_passTick_57 0 rfl ?_
    refine g_callV (rest := []) (st1 := []) C (c_X5_flow B (B + 6) hB (hB).b2 (f_X5_warmOrDrop B 2 (B + 6) (f_X5_blow B 2 (B + 6) (f_X5_draft B ω) (f_X5_flow B (B + 5) (f_X5_warmOrDrop B 1 (B + 5) (f_X5_blow B 1 (B + 5) (f_X5_draft B ω) (f_X5_flow B (B + 4) (f_X5_warmOrDrop B 0 (B + 4) (f_X5_blow B 0 (B + 4) (f_X5_draft B ω) ω))))))))) (cwV 1 C.hts gX5_passTick_X5_flow rfl rfl rfl md_X5_flow ⟨Nat.le_of_ble_eq_true rfl, Nat.le_of_ble_eq_true rfl⟩) (bS0 hB) (mk_1 (kS0 hB)) rfl rfl rfl rfl rfl (Nat.le_of_ble_eq_true rfl) dX5_passTick_59 (Nat.zero_le _) (Nat.zero_le _) ?_
    refine g_iinc (k := 1) (v := 3) (lv' := [(3, .int 3), (4, .ref (ad (B + 6))), (2, .int (f_X5_allowsFire B ω)), (1, .int (f_X5_draft B ω)), (0, .ref (ad B))]) C dX5_passTick_62 rfl (by decide) (by decide) rfl ?_
    refine g_goto (tgt := 12) C dX5_passTick_65 (by decide) ?_
    refine g_iload_n C dX5_passTick_12 rfl 0 rfl ?_
    refine g_aload_n C dX5_passTick_13 rfl 4 rfl ?_
    refine g_get (v := .ref (ad (B + 3))) C iX5 (bS0 hB) (mk_1 (kS0 hB)) rfl 1 (by decide) L22 rfl dX5_passTick_14 ?_
    refine g_alen (v := 4) C 2 (bS3 hB) (mk_3 (kS3 hB)) rfl rfl dX5_passTick_17 ?_
    refine g_icmp_ge (tgt := 68) C dX5_passTick_18 (by decide) (fun z => absurd z (by decide)) (fun _ => ?_)
    refine g_aload_n C dX5_passTick_21 rfl 4 rfl ?_
    refine g_get (v := .ref (ad (B + 3))) C iX5 (bS0 hB) (mk_1 (kS0 hB)) rfl 1 (by decide) L22 rfl dX5_passTick_22 ?_
    refine g_iload_n C dX5_passTick_25 rfl 0 rfl ?_
    refine g_aldq (k := 3) (v := .ref (ad (B + 7))) C 2 (bS3 hB) (mk_3 (kS3 hB)) rfl (by unfold vp_in; decide) rfl rfl dX5_passTick_26 ?_
    refine g_astore (lv' := [(4, .ref (ad (B + 7))), (3, .int 3), (2, .int (f_X5_allowsFire B ω)), (1, .int (f_X5_draft B ω)), (0, .ref (ad B))]) C dX5_passTick_27 (by decide) rfl ?_
    refine g_aload_n C dX5_passTick_29 rfl 4 rfl ?_
    refine g_iload_n C dX5_passTick_30 rfl 1 rfl ?_
    refine g_aload C dX5_passTick_31 0 rfl ?_
    refine g_iload_n C dX5_passTick_33 rfl 3 rfl ?_
    refine g_callV (rest := []) (st1 := []) C (c_X5_blow B 3 (B + 7) (f_X5_draft B ω) hB (hB).b3 (f_X5_flow B (B + 6) (f_X5_warmOrDrop B 2 (B + 6) (f_X5_blow B 2 (B + 6) (f_X5_draft B ω) (f_X5_flow B (B + 5) (f_X5_warmOrDrop B 1 (B + 5) (f_X5_blow B 1 (B + 5) (f_X5_draft B ω) (f_X5_flow B (B + 4) (f_X5_warmOrDrop B 0 (B + 4) (f_X5_blow B 0 (B + 4) (f_X5_draft B ω) ω)))))))))) (cwV 3 C.hts gX5_passTick_X5_blow rfl rfl rfl md_X5_blow ⟨Nat.le_of_ble_eq_true rfl, Nat.le_of_ble_eq_true rfl⟩) (bS0 hB) (mk_1 (kS0 hB)) rfl rfl rfl rfl rfl (Nat.le_of_ble_eq_true rfl) dX5_passTick_34 (Nat.zero_le _) (Nat.zero_le _) ?_
    refine g_iload_n C dX5_passTick_37 rfl 2 rfl ?_
    refine g_if_eq (tgt := 49) C dX5_passTick_38 (by decide) (fun _ => ?_) (fun z => absurd h1 z)
    refine g_aload_n C dX5_passTick_49 rfl 4 rfl ?_
    refine g_iload_n C dX5_passTick_50 rfl 1 rfl ?_
    refine g_aload C dX5_passTick_51 0 rfl ?_
    refine g_callV (rest := []) (st1 := []) C (c_X5_warmOrDrop B 3 (B + 7) hB (hB).b3 (f_X5_blow B 3 (B + 7) (f_X5_draft B ω) (f_X5_flow B (B + 6) (f_X5_warmOrDrop B 2 (B + 6) (f_X5_blow B 2 (B + 6) (f_X5_draft B ω) (f_X5_flow B (B + 5) (f_X5_warmOrDrop B 1 (B + 5) (f_X5_blow B 1 (B + 5) (f_X5_draft B ω) (f_X5_flow B (B + 4) (f_X5_warmOrDrop B 0 (B + 4) (f_X5_blow B 0 (B + 4) (f_X5_draft B ω) ω))))))))))) (cwV 2 C.hts gX5_passTick_X5_warmOrDrop rfl rfl rfl md_X5_warmOrDrop ⟨Nat.le_of_ble_eq_true rfl, Nat.le_of_ble_eq_true rfl⟩) (bS0 hB) (mk_1 (kS0 hB)) rfl rfl rfl rfl rfl (Nat.le_of_ble_eq_true rfl) dX5_passTick_53 (Nat.zero_le _) (Nat.zero_le _) ?_
    refine g_aload_n C dX5_passTick_56 rfl 4 rfl ?_
    refine g_aload C dX5_passTick_57 0 rfl ?_
    refine g_callV (rest := []) (st1 := []) C (c_X5_flow B (B + 7) hB (hB).b3 (f_X5_warmOrDrop B 3 (B + 7) (f_X5_blow B 3 (B + 7) (f_X5_draft B ω) (f_X5_flow B (B + 6) (f_X5_warmOrDrop B 2 (B + 6) (f_X5_blow B 2 (B + 6) (f_X5_draft B ω) (f_X5_flow B (B + 5) (f_X5_warmOrDrop B 1 (B + 5) (f_X5_blow B 1 (B + 5) (f_X5_draft B ω) (f_X5_flow B (B + 4) (f_X5_warmOrDrop B 0 (B + 4) (f_X5_blow B 0 (B + 4) (f_X5_draft B ω) ω)))))))))))) (cwV 1 C.hts gX5_passTick_X5_flow rfl rfl rfl md_X5_flow ⟨Nat.le_of_ble_eq_true rfl, Nat.le_of_ble_eq_true rfl⟩) (bS0 hB) (mk_1 (kS0 hB)) rfl rfl rfl rfl rfl (Nat.le_of_ble_eq_true rfl) dX5_passTick_59 (Nat.zero_le _) (Nat.zero_le _) ?_
    refine g_iinc (k := 1) (v := 4) (lv' := [(3, .int 4), (4, .ref (ad (B + 7))), (2, .int (f_X5_allowsFire B ω)), (1, .int (f_X5_draft B ω)), (0, .ref (ad B))]) C dX5_passTick_62 rfl (by decide) (by decide) rfl ?_
    refine g_goto (tgt := 12) C dX5_passTick_65 (by decide) ?_
    refine g_iload_n C dX5_passTick_12 rfl 0 rfl ?_
    refine g_aload_n C dX5_passTick_13 rfl 4 rfl ?_
    refine g_get (v := .ref (ad (B + 3))) C iX5 (bS0 hB) (mk_1 (kS0 hB)) rfl 1 (by decide) L22 rfl dX5_passTick_14 ?_
    refine g_alen (v := 4) C 2 (bS3 hB) (mk_3 (kS3 hB)) rfl rfl dX5_passTick_17 ?_
    refine g_icmp_ge (tgt := 68) C dX5_passTick_18 (by decide) (fun _ => ?_) (fun z => absurd z (by decide))
    refine gv_lv (lv' := [(0, .ref (ad B)), (1, .int (f_X5_draft B ω)), (2, .int (f_X5_allowsFire B ω)), (3, .int 4), (4, .ref (ad (B + 7)))]) [4, 3, 2, 0, 1] rfl ?_
    exact k_X5_passTick_68 B hB C hret hlk (f_X5_draft B ω) (f_X5_allowsFire B ω) (f_X5_flow B (B + 7) (f_X5_warmOrDrop B 3 (B + 7) (f_X5_blow B 3 (B + 7) (f_X5_draft B ω) (f_X5_flow B (B + 6) (f_X5_warmOrDrop B 2 (B + 6) (f_X5_blow B 2 (B + 6) (f_X5_draft B ω) (f_X5_flow B (B + 5) (f_X5_warmOrDrop B 1 (B + 5) (f_X5_blow B 1 (B + 5) (f_X5_draft B ω) (f_X5_flow B (B + 4) (f_X5_warmOrDrop B 0 (B + 4) (f_X5_blow B 0 (B + 4) (f_X5_draft B ω) ω))))))))))))  _ _ e1 (e2.trans (congrArg (mk X ad) ((if_pos h1).trans rfl)))
  · refine g_aload_n C dX5_passTick_41 rfl 4 rfl ?_
    refine g_iload_n C dX5_passTick_42 rfl 1 rfl ?_
    refine g_aload C dX5_passTick_43 0 rfl ?_
    refine g_iload_n C dX5_passTick_45 rfl 3 rfl ?_
    refine g_callV (rest := []) (st1 := []) C (c_X5_spark B 0 (B + 4) (f_X5_draft B ω) hB (hB).b0 (f_X5_blow B 0 (B + 4) (f_X5_draft B ω) ω)) (cwV 3 C.hts gX5_passTick_X5_spark rfl rfl rfl md_X5_spark ⟨Nat.le_of_ble_eq_true rfl, Nat.le_of_ble_eq_true rfl⟩) (bS0 hB) (mk_1 (kS0 hB)) rfl rfl rfl rfl rfl (Nat.le_of_ble_eq_true rfl) dX5_passTick_46 (Nat.zero_le _) (Nat.zero_le _) ?_
    refine g_aload_n C dX5_passTick_49 rfl 4 rfl ?_
    refine g_iload_n C dX5_passTick_50 rfl 1 rfl ?_
    refine g_aload C dX5_passTick_51 0 rfl ?_
    refine g_callV (rest := []) (st1 := []) C (c_X5_warmOrDrop B 0 (B + 4) hB (hB).b0 (f_X5_spark B 0 (B + 4) (f_X5_draft B ω) (f_X5_blow B 0 (B + 4) (f_X5_draft B ω) ω))) (cwV 2 C.hts gX5_passTick_X5_warmOrDrop rfl rfl rfl md_X5_warmOrDrop ⟨Nat.le_of_ble_eq_true rfl, Nat.le_of_ble_eq_true rfl⟩) (bS0 hB) (mk_1 (kS0 hB)) rfl rfl rfl rfl rfl (Nat.le_of_ble_eq_true rfl) dX5_passTick_53 (Nat.zero_le _) (Nat.zero_le _) ?_
    refine g_aload_n C dX5_passTick_56 rfl 4 rfl ?_
    refine g_aload C dX5_passTick_57 0 rfl ?_
    refine g_callV (rest := []) (st1 := []) C (c_X5_flow B (B + 4) hB (hB).b0 (f_X5_warmOrDrop B 0 (B + 4) (f_X5_spark B 0 (B + 4) (f_X5_draft B ω) (f_X5_blow B 0 (B + 4) (f_X5_draft B ω) ω)))) (cwV 1 C.hts gX5_passTick_X5_flow rfl rfl rfl md_X5_flow ⟨Nat.le_of_ble_eq_true rfl, Nat.le_of_ble_eq_true rfl⟩) (bS0 hB) (mk_1 (kS0 hB)) rfl rfl rfl rfl rfl (Nat.le_of_ble_eq_true rfl) dX5_passTick_59 (Nat.zero_le _) (Nat.zero_le _) ?_
    refine g_iinc (k := 1) (v := 1) (lv' := [(3, .int 1), (4, .ref (ad (B + 4))), (2, .int (f_X5_allowsFire B ω)), (1, .int (f_X5_draft B ω)), (0, .ref (ad B))]) C dX5_passTick_62 rfl (by decide) (by decide) rfl ?_
    refine g_goto (tgt := 12) C dX5_passTick_65 (by decide) ?_
    refine g_iload_n C dX5_passTick_12 rfl 0 rfl ?_
    refine g_aload_n C dX5_passTick_13 rfl 4 rfl ?_
    refine g_get (v := .ref (ad (B + 3))) C iX5 (bS0 hB) (mk_1 (kS0 hB)) rfl 1 (by decide) L22 rfl dX5_passTick_14 ?_
    refine g_alen (v := 4) C 2 (bS3 hB) (mk_3 (kS3 hB)) rfl rfl dX5_passTick_17 ?_
    refine g_icmp_ge (tgt := 68) C dX5_passTick_18 (by decide) (fun z => absurd z (by decide)) (fun _ => ?_)
    refine g_aload_n C dX5_passTick_21 rfl 4 rfl ?_
    refine g_get (v := .ref (ad (B + 3))) C iX5 (bS0 hB) (mk_1 (kS0 hB)) rfl 1 (by decide) L22 rfl dX5_passTick_22 ?_
    refine g_iload_n C dX5_passTick_25 rfl 0 rfl ?_
    refine g_aldq (k := 1) (v := .ref (ad (B + 5))) C 2 (bS3 hB) (mk_3 (kS3 hB)) rfl (by unfold vp_in; decide) rfl rfl dX5_passTick_26 ?_
    refine g_astore (lv' := [(4, .ref (ad (B + 5))), (3, .int 1), (2, .int (f_X5_allowsFire B ω)), (1, .int (f_X5_draft B ω)), (0, .ref (ad B))]) C dX5_passTick_27 (by decide) rfl ?_
    refine g_aload_n C dX5_passTick_29 rfl 4 rfl ?_
    refine g_iload_n C dX5_passTick_30 rfl 1 rfl ?_
    refine g_aload C dX5_passTick_31 0 rfl ?_
    refine g_iload_n C dX5_passTick_33 rfl 3 rfl ?_
    refine g_callV (rest := []) (st1 := []) C (c_X5_blow B 1 (B + 5) (f_X5_draft B ω) hB (hB).b1 (f_X5_flow B (B + 4) (f_X5_warmOrDrop B 0 (B + 4) (f_X5_spark B 0 (B + 4) (f_X5_draft B ω) (f_X5_blow B 0 (B + 4) (f_X5_draft B ω) ω))))) (cwV 3 C.hts gX5_passTick_X5_blow rfl rfl rfl md_X5_blow ⟨Nat.le_of_ble_eq_true rfl, Nat.le_of_ble_eq_true rfl⟩) (bS0 hB) (mk_1 (kS0 hB)) rfl rfl rfl rfl rfl (Nat.le_of_ble_eq_true rfl) dX5_passTick_34 (Nat.zero_le _) (Nat.zero_le _) ?_
    refine g_iload_n C dX5_passTick_37 rfl 2 rfl ?_
    refine g_if_eq (tgt := 49) C dX5_passTick_38 (by decide) (fun z => absurd z h1) (fun _ => ?_)
    refine g_aload_n C dX5_passTick_41 rfl 4 rfl ?_
    refine g_iload_n C dX5_passTick_42 rfl 1 rfl ?_
    refine g_aload C dX5_passTick_43 0 rfl ?_
    refine g_iload_n C dX5_passTick_45 rfl 3 rfl ?_
    refine g_callV (rest := []) (st1 := []) C (c_X5_spark B 1 (B + 5) (f_X5_draft B ω) hB (hB).b1 (f_X5_blow B 1 (B + 5) (f_X5_draft B ω) (f_X5_flow B (B + 4) (f_X5_warmOrDrop B 0 (B + 4) (f_X5_spark B 0 (B + 4) (f_X5_draft B ω) (f_X5_blow B 0 (B + 4) (f_X5_draft B ω) ω)))))) (cwV 3 C.hts gX5_passTick_X5_spark rfl rfl rfl md_X5_spark ⟨Nat.le_of_ble_eq_true rfl, Nat.le_of_ble_eq_true rfl⟩) (bS0 hB) (mk_1 (kS0 hB)) rfl rfl rfl rfl rfl (Nat.le_of_ble_eq_true rfl) dX5_passTick_46 (Nat.zero_le _) (Nat.zero_le _) ?_
    refine g_aload_n C dX5_passTick_49 rfl 4 rfl ?_
    refine g_iload_n C dX5_passTick_50 rfl 1 rfl ?_
    refine g_aload C dX5_passTick_51 0 rfl ?_
    refine g_callV (rest := []) (st1 := []) C (c_X5_warmOrDrop B 1 (B + 5) hB (hB).b1 (f_X5_spark B 1 (B + 5) (f_X5_draft B ω) (f_X5_blow B 1 (B + 5) (f_X5_draft B ω) (f_X5_flow B (B + 4) (f_X5_warmOrDrop B 0 (B + 4) (f_X5_spark B 0 (B + 4) (f_X5_draft B ω) (f_X5_blow B 0 (B + 4) (f_X5_draft B ω) ω))))))) (cwV 2 C.hts gX5_passTick_X5_warmOrDrop rfl rfl rfl md_X5_warmOrDrop ⟨Nat.le_of_ble_eq_true rfl, Nat.le_of_ble_eq_true rfl⟩) (bS0 hB) (mk_1 (kS0 hB)) rfl rfl rfl rfl rfl (Nat.le_of_ble_eq_true rfl) dX5_passTick_53 (Nat.zero_le _) (Nat.zero_le _) ?_
    refine g_aload_n C dX5_passTick_56 rfl 4 rfl ?_
    refine g_aload C dX5_passTick_57 0 rfl ?_
    refine g_callV (rest := []) (st1 := []) C (c_X5_flow B (B + 5) hB (hB).b1 (f_X5_warmOrDrop B 1 (B + 5) (f_X5_spark B 1 (B + 5) (f_X5_draft B ω) (f_X5_blow B 1 (B + 5) (f_X5_draft B ω) (f_X5_flow B (B + 4) (f_X5_warmOrDrop B 0 (B + 4) (f_X5_spark B 0 (B + 4) (f_X5_draft B ω) (f_X5_blow B 0 (B + 4) (f_X5_draft B ω) ω)))))))) (cwV 1 C.hts gX5_passTick_X5_flow rfl rfl rfl md_X5_flow ⟨Nat.le_of_ble_eq_true rfl, Nat.le_of_ble_eq_true rfl⟩) (bS0 hB) (mk_1 (kS0 hB)) rfl rfl rfl rfl rfl (Nat.le_of_ble_eq_true rfl) dX5_passTick_59 (Nat.zero_le _) (Nat.zero_le _) ?_
    refine g_iinc (k := 1) (v := 2) (lv' := [(3, .int 2), (4, .ref (ad (B + 5))), (2, .int (f_X5_allowsFire B ω)), (1, .int (f_X5_draft B ω)), (0, .ref (ad B))]) C dX5_passTick_62 rfl (by decide) (by decide) rfl ?_
    refine g_goto (tgt := 12) C dX5_passTick_65 (by decide) ?_
    refine g_iload_n C dX5_passTick_12 rfl 0 rfl ?_
    refine g_aload_n C dX5_passTick_13 rfl 4 rfl ?_
    refine g_get (v := .ref (ad (B + 3))) C iX5 (bS0 hB) (mk_1 (kS0 hB)) rfl 1 (by decide) L22 rfl dX5_passTick_14 ?_
    refine g_alen (v := 4) C 2 (bS3 hB) (mk_3 (kS3 hB)) rfl rfl dX5_passTick_17 ?_
    refine g_icmp_ge (tgt := 68) C dX5_passTick_18 (by decide) (fun z => absurd z (by decide)) (fun _ => ?_)
    refine g_aload_n C dX5_passTick_21 rfl 4 rfl ?_
    refine g_get (v := .ref (ad (B + 3))) C iX5 (bS0 hB) (mk_1 (kS0 hB)) rfl 1 (by decide) L22 rfl dX5_passTick_22 ?_
    refine g_iload_n C dX5_passTick_25 rfl 0 rfl ?_
    refine g_aldq (k := 2) (v := .ref (ad (B + 6))) C 2 (bS3 hB) (mk_3 (kS3 hB)) rfl (by unfold vp_in; decide) rfl rfl dX5_passTick_26 ?_
    refine g_astore (lv' := [(4, .ref (ad (B + 6))), (3, .int 2), (2, .int (f_X5_allowsFire B ω)), (1, .int (f_X5_draft B ω)), (0, .ref (ad B))]) C dX5_passTick_27 (by decide) rfl ?_
    refine g_aload_n C dX5_passTick_29 rfl 4 rfl ?_
    refine g_iload_n C dX5_passTick_30 rfl 1 rfl ?_
    refine g_aload C dX5_passTick_31 0 rfl ?_
    refine g_iload_n C dX5_passTick_33 rfl 3 rfl ?_
    refine g_callV (rest := []) (st1 := []) C (c_X5_blow B 2 (B + 6) (f_X5_draft B ω) hB (hB).b2 (f_X5_flow B (B + 5) (f_X5_warmOrDrop B 1 (B + 5) (f_X5_spark B 1 (B + 5) (f_X5_draft B ω) (f_X5_blow B 1 (B + 5) (f_X5_draft B ω) (f_X5_flow B (B + 4) (f_X5_warmOrDrop B 0 (B + 4) (f_X5_spark B 0 (B + 4) (f_X5_draft B ω) (f_X5_blow B 0 (B + 4) (f_X5_draft B ω) ω))))))))) (cwV 3 C.hts gX5_passTick_X5_blow rfl rfl rfl md_X5_blow ⟨Nat.le_of_ble_eq_true rfl, Nat.le_of_ble_eq_true rfl⟩) (bS0 hB) (mk_1 (kS0 hB)) rfl rfl rfl rfl rfl (Nat.le_of_ble_eq_true rfl) dX5_passTick_34 (Nat.zero_le _) (Nat.zero_le _) ?_
    refine g_iload_n C dX5_passTick_37 rfl 2 rfl ?_
    refine g_if_eq (tgt := 49) C dX5_passTick_38 (by decide) (fun z => absurd z h1) (fun _ => ?_)
    refine g_aload_n C dX5_passTick_41 rfl 4 rfl ?_
    refine g_iload_n C dX5_passTick_42 rfl 1 rfl ?_
    refine g_aload C dX5_passTick_43 0 rfl ?_
    refine g_iload_n C dX5_passTick_45 rfl 3 rfl ?_
    refine g_callV (rest := []) (st1 := []) C (c_X5_spark B 2 (B + 6) (f_X5_draft B ω) hB (hB).b2 (f_X5_blow B 2 (B + 6) (f_X5_draft B ω) (f_X5_flow B (B + 5) (f_X5_warmOrDrop B 1 (B + 5) (f_X5_spark B 1 (B + 5) (f_X5_draft B ω) (f_X5_blow B 1 (B + 5) (f_X5_draft B ω) (f_X5_flow B (B + 4) (f_X5_warmOrDrop B 0 (B + 4) (f_X5_spark B 0 (B + 4) (f_X5_draft B ω) (f_X5_blow B 0 (B + 4) (f_X5_draft B ω) ω)))))))))) (cwV 3 C.hts gX5_passTick_X5_spark rfl rfl rfl md_X5_spark ⟨Nat.le_of_ble_eq_true rfl, Nat.le_of_ble_eq_true rfl⟩) (bS0 hB) (mk_1 (kS0 hB)) rfl rfl rfl rfl rfl (Nat.le_of_ble_eq_true rfl) dX5_passTick_46 (Nat.zero_le _) (Nat.zero_le _) ?_
    refine g_aload_n C dX5_passTick_49 rfl 4 rfl ?_
    refine g_iload_n C dX5_passTick_50 rfl 1 rfl ?_
    refine g_aload C dX5_passTick_51 0 rfl ?_
    refine g_callV (rest := []) (st1 := []) C (c_X5_warmOrDrop B 2 (B + 6) hB (hB).b2 (f_X5_spark B 2 (B + 6) (f_X5_draft B ω) (f_X5_blow B 2 (B + 6) (f_X5_draft B ω) (f_X5_flow B (B + 5) (f_X5_warmOrDrop B 1 (B + 5) (f_X5_spark B 1 (B + 5) (f_X5_draft B ω) (f_X5_blow B 1 (B + 5) (f_X5_draft B ω) (f_X5_flow B (B + 4) (f_X5_warmOrDrop B 0 (B + 4) (f_X5_spark B 0 (B + 4) (f_X5_draft B ω) (f_X5_blow B 0 (B + 4) (f_X5_draft B ω) ω))))))))))) (cwV 2 C.hts gX5_passTick_X5_warmOrDrop rfl rfl rfl md_X5_warmOrDrop ⟨Nat.le_of_ble_eq_true rfl, Nat.le_of_ble_eq_true rfl⟩) (bS0 hB) (mk_1 (kS0 hB)) rfl rfl rfl rfl rfl (Nat.le_of_ble_eq_true rfl) dX5_passTick_53 (Nat.zero_le _) (Nat.zero_le _) ?_
    refine g_aload_n C dX5_passTick_56 rfl 4 rfl ?_
    refine g_aload C dX5_passTick_57 0 rfl ?_
    refine g_callV (rest := []) (st1 := []) C (c_X5_flow B (B + 6) hB (hB).b2 (f_X5_warmOrDrop B 2 (B + 6) (f_X5_spark B 2 (B + 6) (f_X5_draft B ω) (f_X5_blow B 2 (B + 6) (f_X5_draft B ω) (f_X5_flow B (B + 5) (f_X5_warmOrDrop B 1 (B + 5) (f_X5_spark B 1 (B + 5) (f_X5_draft B ω) (f_X5_blow B 1 (B + 5) (f_X5_draft B ω) (f_X5_flow B (B + 4) (f_X5_warmOrDrop B 0 (B + 4) (f_X5_spark B 0 (B + 4) (f_X5_draft B ω) (f_X5_blow B 0 (B + 4) (f_X5_draft B ω) ω)))))))))))) (cwV 1 C.hts gX5_passTick_X5_flow rfl rfl rfl md_X5_flow ⟨Nat.le_of_ble_eq_true rfl, Nat.le_of_ble_eq_true rfl⟩) (bS0 hB) (mk_1 (kS0 hB)) rfl rfl rfl rfl rfl (Nat.le_of_ble_eq_true rfl) dX5_passTick_59 (Nat.zero_le _) (Nat.zero_le _) ?_
    refine g_iinc (k := 1) (v := 3) (lv' := [(3, .int 3), (4, .ref (ad (B + 6))), (2, .int (f_X5_allowsFire B ω)), (1, .int (f_X5_draft B ω)), (0, .ref (ad B))]) C dX5_passTick_62 rfl (by decide) (by decide) rfl ?_
    refine g_goto (tgt := 12) C dX5_passTick_65 (by decide) ?_
    refine g_iload_n C dX5_passTick_12 rfl 0 rfl ?_
    refine g_aload_n C dX5_passTick_13 rfl 4 rfl ?_
    refine g_get (v := .ref (ad (B + 3))) C iX5 (bS0 hB) (mk_1 (kS0 hB)) rfl 1 (by decide) L22 rfl dX5_passTick_14 ?_
    refine g_alen (v := 4) C 2 (bS3 hB) (mk_3 (kS3 hB)) rfl rfl dX5_passTick_17 ?_
    refine g_icmp_ge (tgt := 68) C dX5_passTick_18 (by decide) (fun z => absurd z (by decide)) (fun _ => ?_)
    refine g_aload_n C dX5_passTick_21 rfl 4 rfl ?_
    refine g_get (v := .ref (ad (B + 3))) C iX5 (bS0 hB) (mk_1 (kS0 hB)) rfl 1 (by decide) L22 rfl dX5_passTick_22 ?_
    refine g_iload_n C dX5_passTick_25 rfl 0 rfl ?_
    refine g_aldq (k := 3) (v := .ref (ad (B + 7))) C 2 (bS3 hB) (mk_3 (kS3 hB)) rfl (by unfold vp_in; decide) rfl rfl dX5_passTick_26 ?_
    refine g_astore (lv' := [(4, .ref (ad (B + 7))), (3, .int 3), (2, .int (f_X5_allowsFire B ω)), (1, .int (f_X5_draft B ω)), (0, .ref (ad B))]) C dX5_passTick_27 (by decide) rfl ?_
    refine g_aload_n C dX5_passTick_29 rfl 4 rfl ?_
    refine g_iload_n C dX5_passTick_30 rfl 1 rfl ?_
    refine g_aload C dX5_passTick_31 0 rfl ?_
    refine g_iload_n C dX5_passTick_33 rfl 3 rfl ?_
    refine g_callV (rest := []) (st1 := []) C (c_X5_blow B 3 (B + 7) (f_X5_draft B ω) hB (hB).b3 (f_X5_flow B (B + 6) (f_X5_warmOrDrop B 2 (B + 6) (f_X5_spark B 2 (B + 6) (f_X5_draft B ω) (f_X5_blow B 2 (B + 6) (f_X5_draft B ω) (f_X5_flow B (B + 5) (f_X5_warmOrDrop B 1 (B + 5) (f_X5_spark B 1 (B + 5) (f_X5_draft B ω) (f_X5_blow B 1 (B + 5) (f_X5_draft B ω) (f_X5_flow B (B + 4) (f_X5_warmOrDrop B 0 (B + 4) (f_X5_spark B 0 (B + 4) (f_X5_draft B ω) (f_X5_blow B 0 (B + 4) (f_X5_draft B ω) ω))))))))))))) (cwV 3 C.hts gX5_passTick_X5_blow rfl rfl rfl md_X5_blow ⟨Nat.le_of_ble_eq_true rfl, Nat.le_of_ble_eq_true rfl⟩) (bS0 hB) (mk_1 (kS0 hB)) rfl rfl rfl rfl rfl (Nat.le_of_ble_eq_true rfl) dX5_passTick_34 (Nat.zero_le _) (Nat.zero_le _) ?_
    refine g_iload_n C dX5_passTick_37 rfl 2 rfl ?_
    refine g_if_eq (tgt := 49) C dX5_passTick_38 (by decide) (fun z => absurd z h1) (fun _ => ?_)
    refine g_aload_n C dX5_passTick_41 rfl 4 rfl ?_
    refine g_iload_n C dX5_passTick_42 rfl 1 rfl ?_
    refine g_aload C dX5_passTick_43 0 rfl ?_
    refine g_iload_n C dX5_passTick_45 rfl 3 rfl ?_
    refine g_callV (rest := []) (st1 := []) C (c_X5_spark B 3 (B + 7) (f_X5_draft B ω) hB (hB).b3 (f_X5_blow B 3 (B + 7) (f_X5_draft B ω) (f_X5_flow B (B + 6) (f_X5_warmOrDrop B 2 (B + 6) (f_X5_spark B 2 (B + 6) (f_X5_draft B ω) (f_X5_blow B 2 (B + 6) (f_X5_draft B ω) (f_X5_flow B (B + 5) (f_X5_warmOrDrop B 1 (B + 5) (f_X5_spark B 1 (B + 5) (f_X5_draft B ω) (f_X5_blow B 1 (B + 5) (f_X5_draft B ω) (f_X5_flow B (B + 4) (f_X5_warmOrDrop B 0 (B + 4) (f_X5_spark B 0 (B + 4) (f_X5_draft B ω) (f_X5_blow B 0 (B + 4) (f_X5_draft B ω) ω)))))))))))))) (cwV 3 C.hts gX5_passTick_X5_spark rfl rfl rfl md_X5_spark ⟨Nat.le_of_ble_eq_true rfl, Nat.le_of_ble_eq_true rfl⟩) (bS0 hB) (mk_1 (kS0 hB)) rfl rfl rfl rfl rfl (Nat.le_of_ble_eq_true rfl) dX5_passTick_46 (Nat.zero_le _) (Nat.zero_le _) ?_
    refine g_aload_n C dX5_passTick_49 rfl 4 rfl ?_
    refine g_iload_n C dX5_passTick_50 rfl 1 rfl ?_
    refine g_aload C dX5_passTick_51 0 rfl ?_
    refine g_callV (rest := []) (st1 := []) C (c_X5_warmOrDrop B 3 (B + 7) hB (hB).b3 (f_X5_spark B 3 (B + 7) (f_X5_draft B ω) (f_X5_blow B 3 (B + 7) (f_X5_draft B ω) (f_X5_flow B (B + 6) (f_X5_warmOrDrop B 2 (B + 6) (f_X5_spark B 2 (B + 6) (f_X5_draft B ω) (f_X5_blow B 2 (B + 6) (f_X5_draft B ω) (f_X5_flow B (B + 5) (f_X5_warmOrDrop B 1 (B + 5) (f_X5_spark B 1 (B + 5) (f_X5_draft B ω) (f_X5_blow B 1 (B + 5) (f_X5_draft B ω) (f_X5_flow B (B + 4) (f_X5_warmOrDrop B 0 (B + 4) (f_X5_spark B 0 (B + 4) (f_X5_draft B ω) (f_X5_blow B 0 (B + 4) (f_X5_draft B ω) ω))))))))))))))) (cwV 2 C.hts gX5_passTick_X5_warmOrDrop rfl rfl rfl md_X5_warmOrDrop ⟨Nat.le_of_ble_eq_true rfl, Nat.le_of_ble_eq_true rfl⟩) (bS0 hB) (mk_1 (kS0 hB)) rfl rfl rfl rfl rfl (Nat.le_of_ble_eq_true rfl) dX5_passTick_53 (Nat.zero_le _) (Nat.zero_le _) ?_
    refine g_aload_n C dX5_passTick_56 rfl 4 rfl ?_
    refine g_aload C dX5_passTick_57 0 rfl ?_
    refine g_callV (rest := []) (st1 := []) C (c_X5_flow B (B + 7) hB (hB).b3 (f_X5_warmOrDrop B 3 (B + 7) (f_X5_spark B 3 (B + 7) (f_X5_draft B ω) (f_X5_blow B 3 (B + 7) (f_X5_draft B ω) (f_X5_flow B (B + 6) (f_X5_warmOrDrop B 2 (B + 6) (f_X5_spark B 2 (B + 6) (f_X5_draft B ω) (f_X5_blow B 2 (B + 6) (f_X5_draft B ω) (f_X5_flow B (B + 5) (f_X5_warmOrDrop B 1 (B + 5) (f_X5_spark B 1 (B + 5) (f_X5_draft B ω) (f_X5_blow B 1 (B + 5) (f_X5_draft B ω) (f_X5_flow B (B + 4) (f_X5_warmOrDrop B 0 (B + 4) (f_X5_spark B 0 (B + 4) (f_X5_draft B ω) (f_X5_blow B 0 (B + 4) (f_X5_draft B ω) ω)))))))))))))))) (cwV 1 C.hts gX5_passTick_X5_flow rfl rfl rfl md_X5_flow ⟨Nat.le_of_ble_eq_true rfl, Nat.le_of_ble_eq_true rfl⟩) (bS0 hB) (mk_1 (kS0 hB)) rfl rfl rfl rfl rfl (Nat.le_of_ble_eq_true rfl) dX5_passTick_59 (Nat.zero_le _) (Nat.zero_le _) ?_
    refine g_iinc (k := 1) (v := 4) (lv' := [(3, .int 4), (4, .ref (ad (B + 7))), (2, .int (f_X5_allowsFire B ω)), (1, .int (f_X5_draft B ω)), (0, .ref (ad B))]) C dX5_passTick_62 rfl (by decide) (by decide) rfl ?_
    refine g_goto (tgt := 12) C dX5_passTick_65 (by decide) ?_
    refine g_iload_n C dX5_passTick_12 rfl 0 rfl ?_
    refine g_aload_n C dX5_passTick_13 rfl 4 rfl ?_
    refine g_get (v := .ref (ad (B + 3))) C iX5 (bS0 hB) (mk_1 (kS0 hB)) rfl 1 (by decide) L22 rfl dX5_passTick_14 ?_
    refine g_alen (v := 4) C 2 (bS3 hB) (mk_3 (kS3 hB)) rfl rfl dX5_passTick_17 ?_
    refine g_icmp_ge (tgt := 68) C dX5_passTick_18 (by decide) (fun _ => ?_) (fun z => absurd z (by decide))
    refine gv_lv (lv' := [(0, .ref (ad B)), (1, .int (f_X5_draft B ω)), (2, .int (f_X5_allowsFire B ω)), (3, .int 4), (4, .ref (ad (B + 7)))]) [4, 3, 2, 0, 1] rfl ?_
    exact k_X5_passTick_68 B hB C hret hlk (f_X5_draft B ω) (f_X5_allowsFire B ω) (f_X5_flow B (B + 7) (f_X5_warmOrDrop B 3 (B + 7) (f_X5_spark B 3 (B + 7) (f_X5_draft B ω) (f_X5_blow B 3 (B + 7) (f_X5_draft B ω) (f_X5_flow B (B + 6) (f_X5_warmOrDrop B 2 (B + 6) (f_X5_spark B 2 (B + 6) (f_X5_draft B ω) (f_X5_blow B 2 (B + 6) (f_X5_draft B ω) (f_X5_flow B (B + 5) (f_X5_warmOrDrop B 1 (B + 5) (f_X5_spark B 1 (B + 5) (f_X5_draft B ω) (f_X5_blow B 1 (B + 5) (f_X5_draft B ω) (f_X5_flow B (B + 4) (f_X5_warmOrDrop B 0 (B + 4) (f_X5_spark B 0 (B + 4) (f_X5_draft B ω) (f_X5_blow B 0 (B + 4) (f_X5_draft B ω) ω))))))))))))))))  _ _ e1 (e2.trans (congrArg (mk X ad) ((if_neg h1).trans rfl)))
abbrev rm_X5_isClear : Room := { frames := 4, cells := 0, slots := 0, locals := 84 }
theorem md_X5_isClear : yX5_isClear.cls = RX5 ∧ yX5_isClear.cls ≠ "java/lang/invoke/MethodHandle" ∧ yX5_isClear.cls ≠ "java/lang/invoke/VarHandle" ∧ (parseMethodDescriptor yX5_isClear.desc).map (fun d => d.parameters.length) = some 0 := by decide +kernel
def f_X5_isClear (B : Nat) (ω : Mem) : Int32 := (if (ω B 5) ≤ 0 then (if (f_X5_flowsUnburnt B (B + 4) ω) = 0 then (if (f_X5_flowsUnburnt B (B + 5) ω) = 0 then (if (f_X5_flowsUnburnt B (B + 6) ω) = 0 then (if (f_X5_flowsUnburnt B (B + 7) ω) = 0 then 1 else 0) else 0) else 0) else 0) else 0)
set_option maxRecDepth 100000 in
set_option maxHeartbeats 4000000 in
theorem c_X5_isClear {l_ : Launch} {sa : Nat → Nat} {D : va_G} {X : Nat → ClassId} {ad : Nat → Nat} (B : Nat) (hB : isS B) (ω : Mem)  : CT l_ yX5_isClear wsX5_isClear rm_X5_isClear sa D (tyX X) 120 ad (mk X ad ω) [.ref (ad B)] (some (.int (f_X5_isClear B ω)) : Option Value) (mk X ad ω) := by
  refine ct_of [(0, .ref (ad B))] (by decide +kernel) rfl rfl (Nat.le_of_ble_eq_true rfl) rfl ?_
  intro p_ e_ s_ m_ args_ below_ meth_ c_ C hret hlk hin
  have e1 : (some (.int (f_X5_isClear B ω)) : Option Value) = (some (.int (f_X5_isClear B ω)) : Option Value) := rfl
  have e2 : mk X ad ω = mk X ad ω := rfl
  have iX5 : ∀ w ∈ u_ws RX5 TX5 8, w ∈ wsX5_isClear := by decide +kernel
  have L22 : Cond.fieldLink RX5 22 (TX5 1).1 (TX5 1).2.1 (TX5 1).2.2.1 ∈ wsX5_isClear := by decide +kernel
  have L60 : Cond.fieldLink RX5 60 (TX5 5).1 (TX5 5).2.1 (TX5 5).2.2.1 ∈ wsX5_isClear := by decide +kernel
  refine g_aload_n C dX5_isClear_0 rfl 0 rfl ?_
  refine g_get (v := .int (ω B 5)) C iX5 (bS0 hB) (mk_1 (kS0 hB)) rfl 5 (by decide) L60 rfl dX5_isClear_1 ?_
  refine g_if_le (tgt := 9) C dX5_isClear_4 (by decide) (fun h1 => ?_) (fun h1 => ?_)
  · refine g_aload_n C dX5_isClear_9 rfl 0 rfl ?_
    refine g_get (v := .ref (ad (B + 3))) C iX5 (bS0 hB) (mk_1 (kS0 hB)) rfl 1 (by decide) L22 rfl dX5_isClear_10 ?_
    refine g_astore_n (lv' := [(1, .ref (ad (B + 3))), (0, .ref (ad B))]) C dX5_isClear_13 rfl (by decide) rfl ?_
    refine g_aload_n C dX5_isClear_14 rfl 0 rfl ?_
    refine g_alen (v := 4) C 2 (bS3 hB) (mk_3 (kS3 hB)) rfl rfl dX5_isClear_15 ?_
    refine g_istore_n (lv' := [(2, .int 4), (1, .ref (ad (B + 3))), (0, .ref (ad B))]) C dX5_isClear_16 rfl (by decide) rfl ?_
    refine g_iconst (v := 0) C dX5_isClear_17 (by decide) ?_
    refine g_istore_n (lv' := [(3, .int 0), (2, .int 4), (1, .ref (ad (B + 3))), (0, .ref (ad B))]) C dX5_isClear_18 rfl (by decide) rfl ?_
    refine g_iload_n C dX5_isClear_19 rfl 0 rfl ?_
    refine g_iload_n C dX5_isClear_20 rfl 1 rfl ?_
    refine g_icmp_ge (tgt := 46) C dX5_isClear_21 (by decide) (fun z => absurd z (by decide)) (fun _ => ?_)
    refine g_aload_n C dX5_isClear_24 rfl 2 rfl ?_
    refine g_iload_n C dX5_isClear_25 rfl 0 rfl ?_
    refine g_aldq (k := 0) (v := .ref (ad (B + 4))) C 2 (bS3 hB) (mk_3 (kS3 hB)) rfl (by unfold vp_in; decide) rfl rfl dX5_isClear_26 ?_
    refine g_astore (lv' := [(4, .ref (ad (B + 4))), (3, .int 0), (2, .int 4), (1, .ref (ad (B + 3))), (0, .ref (ad B))]) C dX5_isClear_27 (by decide) rfl ?_
    refine g_aload_n C dX5_isClear_29 rfl 4 rfl ?_
    refine g_aload C dX5_isClear_30 0 rfl ?_
    refine g_callV (rest := []) (st1 := [.int (f_X5_flowsUnburnt B (B + 4) ω)]) C (c_X5_flowsUnburnt B (B + 4) hB (hB).b0 ω) (cwV 1 C.hts gX5_isClear_X5_flowsUnburnt rfl rfl rfl md_X5_flowsUnburnt ⟨Nat.le_of_ble_eq_true rfl, Nat.le_of_ble_eq_true rfl⟩) (bS0 hB) (mk_1 (kS0 hB)) rfl rfl rfl rfl rfl (Nat.le_of_ble_eq_true rfl) dX5_isClear_32 (Nat.zero_le _) (Nat.zero_le _) ?_
    refine g_if_eq (tgt := 40) C dX5_isClear_35 (by decide) (fun h2 => ?_) (fun h2 => ?_)
    · refine g_iinc (k := 1) (v := 1) (lv' := [(3, .int 1), (4, .ref (ad (B + 4))), (2, .int 4), (1, .ref (ad (B + 3))), (0, .ref (ad B))]) C dX5_isClear_40 rfl (by decide) (by decide) rfl ?_
      refine g_goto (tgt := 19) C dX5_isClear_43 (by decide) ?_
      refine g_iload_n C dX5_isClear_19 rfl 0 rfl ?_
      refine g_iload_n C dX5_isClear_20 rfl 2 rfl ?_
      refine g_icmp_ge (tgt := 46) C dX5_isClear_21 (by decide) (fun z => absurd z (by decide)) (fun _ => ?_)
      refine g_aload_n C dX5_isClear_24 rfl 3 rfl ?_
      refine g_iload_n C dX5_isClear_25 rfl 0 rfl ?_
      refine g_aldq (k := 1) (v := .ref (ad (B + 5))) C 2 (bS3 hB) (mk_3 (kS3 hB)) rfl (by unfold vp_in; decide) rfl rfl dX5_isClear_26 ?_
      refine g_astore (lv' := [(4, .ref (ad (B + 5))), (3, .int 1), (2, .int 4), (1, .ref (ad (B + 3))), (0, .ref (ad B))]) C dX5_isClear_27 (by decide) rfl ?_
      refine g_aload_n C dX5_isClear_29 rfl 4 rfl ?_
      refine g_aload C dX5_isClear_30 0 rfl ?_
      refine g_callV (rest := []) (st1 := [.int (f_X5_flowsUnburnt B (B + 5) ω)]) C (c_X5_flowsUnburnt B (B + 5) hB (hB).b1 ω) (cwV 1 C.hts gX5_isClear_X5_flowsUnburnt rfl rfl rfl md_X5_flowsUnburnt ⟨Nat.le_of_ble_eq_true rfl, Nat.le_of_ble_eq_true rfl⟩) (bS0 hB) (mk_1 (kS0 hB)) rfl rfl rfl rfl rfl (Nat.le_of_ble_eq_true rfl) dX5_isClear_32 (Nat.zero_le _) (Nat.zero_le _) ?_
      refine g_if_eq (tgt := 40) C dX5_isClear_35 (by decide) (fun h3 => ?_) (fun h3 => ?_)
      · refine g_iinc (k := 1) (v := 2) (lv' := [(3, .int 2), (4, .ref (ad (B + 5))), (2, .int 4), (1, .ref (ad (B + 3))), (0, .ref (ad B))]) C dX5_isClear_40 rfl (by decide) (by decide) rfl ?_
        refine g_goto (tgt := 19) C dX5_isClear_43 (by decide) ?_
        refine g_iload_n C dX5_isClear_19 rfl 0 rfl ?_
        refine g_iload_n C dX5_isClear_20 rfl 2 rfl ?_
        refine g_icmp_ge (tgt := 46) C dX5_isClear_21 (by decide) (fun z => absurd z (by decide)) (fun _ => ?_)
        refine g_aload_n C dX5_isClear_24 rfl 3 rfl ?_
        refine g_iload_n C dX5_isClear_25 rfl 0 rfl ?_
        refine g_aldq (k := 2) (v := .ref (ad (B + 6))) C 2 (bS3 hB) (mk_3 (kS3 hB)) rfl (by unfold vp_in; decide) rfl rfl dX5_isClear_26 ?_
        refine g_astore (lv' := [(4, .ref (ad (B + 6))), (3, .int 2), (2, .int 4), (1, .ref (ad (B + 3))), (0, .ref (ad B))]) C dX5_isClear_27 (by decide) rfl ?_
        refine g_aload_n C dX5_isClear_29 rfl 4 rfl ?_
        refine g_aload C dX5_isClear_30 0 rfl ?_
        refine g_callV (rest := []) (st1 := [.int (f_X5_flowsUnburnt B (B + 6) ω)]) C (c_X5_flowsUnburnt B (B + 6) hB (hB).b2 ω) (cwV 1 C.hts gX5_isClear_X5_flowsUnburnt rfl rfl rfl md_X5_flowsUnburnt ⟨Nat.le_of_ble_eq_true rfl, Nat.le_of_ble_eq_true rfl⟩) (bS0 hB) (mk_1 (kS0 hB)) rfl rfl rfl rfl rfl (Nat.le_of_ble_eq_true rfl) dX5_isClear_32 (Nat.zero_le _) (Nat.zero_le _) ?_
        refine g_if_eq (tgt := 40) C dX5_isClear_35 (by decide) (fun h4 => ?_) (fun h4 => ?_)
        · refine g_iinc (k := 1) (v := 3) (lv' := [(3, .int 3), (4, .ref (ad (B + 6))), (2, .int 4), (1, .ref (ad (B + 3))), (0, .ref (ad B))]) C dX5_isClear_40 rfl (by decide) (by decide) rfl ?_
          refine g_goto (tgt := 19) C dX5_isClear_43 (by decide) ?_
          refine g_iload_n C dX5_isClear_19 rfl 0 rfl ?_
          refine g_iload_n C dX5_isClear_20 rfl 2 rfl ?_
          refine g_icmp_ge (tgt := 46) C dX5_isClear_21 (by decide) (fun z => absurd z (by decide)) (fun _ => ?_)
          refine g_aload_n C dX5_isClear_24 rfl 3 rfl ?_
          refine g_iload_n C dX5_isClear_25 rfl 0 rfl ?_
          refine g_aldq (k := 3) (v := .ref (ad (B + 7))) C 2 (bS3 hB) (mk_3 (kS3 hB)) rfl (by unfold vp_in; decide) rfl rfl dX5_isClear_26 ?_
          refine g_astore (lv' := [(4, .ref (ad (B + 7))), (3, .int 3), (2, .int 4), (1, .ref (ad (B + 3))), (0, .ref (ad B))]) C dX5_isClear_27 (by decide) rfl ?_
          refine g_aload_n C dX5_isClear_29 rfl 4 rfl ?_
          refine g_aload C dX5_isClear_30 0 rfl ?_
          refine g_callV (rest := []) (st1 := [.int (f_X5_flowsUnburnt B (B + 7) ω)]) C (c_X5_flowsUnburnt B (B + 7) hB (hB).b3 ω) (cwV 1 C.hts gX5_isClear_X5_flowsUnburnt rfl rfl rfl md_X5_flowsUnburnt ⟨Nat.le_of_ble_eq_true rfl, Nat.le_of_ble_eq_true rfl⟩) (bS0 hB) (mk_1 (kS0 hB)) rfl rfl rfl rfl rfl (Nat.le_of_ble_eq_true rfl) dX5_isClear_32 (Nat.zero_le _) (Nat.zero_le _) ?_
          refine g_if_eq (tgt := 40) C dX5_isClear_35 (by decide) (fun h5 => ?_) (fun h5 => ?_)
          · refine g_iinc (k := 1) (v := 4) (lv' := [(3, .int 4), (4, .ref (ad (B + 7))), (2, .int 4), (1, .ref (ad (B + 3))), (0, .ref (ad B))]) C dX5_isClear_40 rfl (by decide) (by decide) rfl ?_
            refine g_goto (tgt := 19) C dX5_isClear_43 (by decide) ?_
            refine g_iload_n C dX5_isClear_19 rfl 0 rfl ?_
            refine g_iload_n C dX5_isClear_20 rfl 2 rfl ?_
            refine g_icmp_ge (tgt := 46) C dX5_isClear_21 (by decide) (fun _ => ?_) (fun z => absurd z (by decide))
            refine g_iconst (v := 1) C dX5_isClear_46 (by decide) ?_
            exact g_zret C hret hlk (nar_b (by decide)).1 (e1.trans (congrArg (fun z => some (Value.int z)) ((if_pos h1).trans ((if_pos h2).trans ((if_pos h3).trans ((if_pos h4).trans ((if_pos h5).trans rfl))))))) e2 dX5_isClear_47
          · refine g_iconst (v := 0) C dX5_isClear_38 (by decide) ?_
            exact g_zret C hret hlk (nar_b (by decide)).1 (e1.trans (congrArg (fun z => some (Value.int z)) ((if_pos h1).trans ((if_pos h2).trans ((if_pos h3).trans ((if_pos h4).trans ((if_neg h5).trans rfl))))))) e2 dX5_isClear_39
        · refine g_iconst (v := 0) C dX5_isClear_38 (by decide) ?_
          exact g_zret C hret hlk (nar_b (by decide)).1 (e1.trans (congrArg (fun z => some (Value.int z)) ((if_pos h1).trans ((if_pos h2).trans ((if_pos h3).trans ((if_neg h4).trans rfl)))))) e2 dX5_isClear_39
      · refine g_iconst (v := 0) C dX5_isClear_38 (by decide) ?_
        exact g_zret C hret hlk (nar_b (by decide)).1 (e1.trans (congrArg (fun z => some (Value.int z)) ((if_pos h1).trans ((if_pos h2).trans ((if_neg h3).trans rfl))))) e2 dX5_isClear_39
    · refine g_iconst (v := 0) C dX5_isClear_38 (by decide) ?_
      exact g_zret C hret hlk (nar_b (by decide)).1 (e1.trans (congrArg (fun z => some (Value.int z)) ((if_pos h1).trans ((if_neg h2).trans rfl)))) e2 dX5_isClear_39
  · refine g_iconst (v := 0) C dX5_isClear_7 (by decide) ?_
    exact g_zret C hret hlk (nar_b (by decide)).1 (e1.trans (congrArg (fun z => some (Value.int z)) ((if_neg h1).trans rfl))) e2 dX5_isClear_8
theorem z_X5_isClear {B : Nat} {ω : Mem} : bb (f_X5_isClear B ω) = f_X5_isClear B ω := by
  unfold f_X5_isClear
  repeat' split
  all_goals first | with_reducible exact z_X5_flowsUnburnt | with_reducible exact bb_bb _ | decide
abbrev rm_X5_ignitersOn : Room := { frames := 1, cells := 0, slots := 0, locals := 20 }
theorem md_X5_ignitersOn : yX5_ignitersOn.cls = RX5 ∧ yX5_ignitersOn.cls ≠ "java/lang/invoke/MethodHandle" ∧ yX5_ignitersOn.cls ≠ "java/lang/invoke/VarHandle" ∧ (parseMethodDescriptor yX5_ignitersOn.desc).map (fun d => d.parameters.length) = some 0 := by decide +kernel
def f_X5_ignitersOn (B : Nat) (ω : Mem) : Int32 := ((((0 + (f_X7_oneIf (bb (ω (B + 4) 3)) ω)) + (f_X7_oneIf (bb (ω (B + 5) 3)) ω)) + (f_X7_oneIf (bb (ω (B + 6) 3)) ω)) + (f_X7_oneIf (bb (ω (B + 7) 3)) ω))
set_option maxRecDepth 100000 in
set_option maxHeartbeats 4000000 in
theorem c_X5_ignitersOn {l_ : Launch} {sa : Nat → Nat} {D : va_G} {X : Nat → ClassId} {ad : Nat → Nat} (B : Nat) (hB : isS B) (ω : Mem)  : CT l_ yX5_ignitersOn wsX5_ignitersOn rm_X5_ignitersOn sa D (tyX X) 120 ad (mk X ad ω) [.ref (ad B)] (some (.int (f_X5_ignitersOn B ω)) : Option Value) (mk X ad ω) := by
  refine ct_of [(0, .ref (ad B))] (by decide +kernel) rfl rfl (Nat.le_of_ble_eq_true rfl) rfl ?_
  intro p_ e_ s_ m_ args_ below_ meth_ c_ C hret hlk hin
  have e1 : (some (.int (f_X5_ignitersOn B ω)) : Option Value) = (some (.int (f_X5_ignitersOn B ω)) : Option Value) := rfl
  have e2 : mk X ad ω = mk X ad ω := rfl
  have iX0 : ∀ w ∈ u_ws RX0 TX0 10, w ∈ wsX5_ignitersOn := by decide +kernel
  have iX5 : ∀ w ∈ u_ws RX5 TX5 8, w ∈ wsX5_ignitersOn := by decide +kernel
  have IX7 : Cond.initialized RX7 ∈ wsX5_ignitersOn := by decide +kernel
  have L123 : Cond.fieldLink RX5 123 (TX0 3).1 (TX0 3).2.1 (TX0 3).2.2.1 ∈ wsX5_ignitersOn := by decide +kernel
  have L22 : Cond.fieldLink RX5 22 (TX5 1).1 (TX5 1).2.1 (TX5 1).2.2.1 ∈ wsX5_ignitersOn := by decide +kernel
  have TX7_oneIf : Cond.static yX7_oneIf ∈ wsX5_ignitersOn := by decide +kernel
  refine g_iconst (v := 0) C dX5_ignitersOn_0 (by decide) ?_
  refine g_istore_n (lv' := [(1, .int 0), (0, .ref (ad B))]) C dX5_ignitersOn_1 rfl (by decide) rfl ?_
  refine g_aload_n C dX5_ignitersOn_2 rfl 1 rfl ?_
  refine g_get (v := .ref (ad (B + 3))) C iX5 (bS0 hB) (mk_1 (kS0 hB)) rfl 1 (by decide) L22 rfl dX5_ignitersOn_3 ?_
  refine g_astore_n (lv' := [(2, .ref (ad (B + 3))), (1, .int 0), (0, .ref (ad B))]) C dX5_ignitersOn_6 rfl (by decide) rfl ?_
  refine g_aload_n C dX5_ignitersOn_7 rfl 0 rfl ?_
  refine g_alen (v := 4) C 2 (bS3 hB) (mk_3 (kS3 hB)) rfl rfl dX5_ignitersOn_8 ?_
  refine g_istore_n (lv' := [(3, .int 4), (2, .ref (ad (B + 3))), (1, .int 0), (0, .ref (ad B))]) C dX5_ignitersOn_9 rfl (by decide) rfl ?_
  refine g_iconst (v := 0) C dX5_ignitersOn_10 (by decide) ?_
  refine g_istore (lv' := [(4, .int 0), (3, .int 4), (2, .ref (ad (B + 3))), (1, .int 0), (0, .ref (ad B))]) C dX5_ignitersOn_11 (by decide) rfl ?_
  refine g_iload C dX5_ignitersOn_13 0 rfl ?_
  refine g_iload_n C dX5_ignitersOn_15 rfl 1 rfl ?_
  refine g_icmp_ge (tgt := 42) C dX5_ignitersOn_16 (by decide) (fun z => absurd z (by decide)) (fun _ => ?_)
  refine g_aload_n C dX5_ignitersOn_19 rfl 2 rfl ?_
  refine g_iload C dX5_ignitersOn_20 0 rfl ?_
  refine g_aldq (k := 0) (v := .ref (ad (B + 4))) C 2 (bS3 hB) (mk_3 (kS3 hB)) rfl (by unfold vp_in; decide) rfl rfl dX5_ignitersOn_22 ?_
  refine g_astore (lv' := [(5, .ref (ad (B + 4))), (4, .int 0), (3, .int 4), (2, .ref (ad (B + 3))), (1, .int 0), (0, .ref (ad B))]) C dX5_ignitersOn_23 (by decide) rfl ?_
  refine g_iload_n C dX5_ignitersOn_25 rfl 4 rfl ?_
  refine g_aload C dX5_ignitersOn_26 0 rfl ?_
  refine g_get (v := .int (bb (ω (B + 4) 3))) C iX0 (bS4 hB) (mk_4 (kS4 hB)) rfl 3 (by decide) L123 rfl dX5_ignitersOn_28 ?_
  refine g_callSN (rest := [.int 0]) (st1 := [.int (f_X7_oneIf (bb (ω (B + 4) 3)) ω), .int 0]) C (c_X7_oneIf (bb (ω (B + 4) 3)) ω) (va_cnB 1 C.hts gX5_ignitersOn_X7_oneIf_n126 rfl rfl rfl (nw8 C.hN) (C.hts _ IX7) md_X7_oneIf.2 ⟨Nat.le_of_ble_eq_true rfl, Nat.le_of_ble_eq_true rfl⟩) TX7_oneIf rfl rfl rfl (Nat.le_of_ble_eq_true rfl) dX5_ignitersOn_31 (Nat.zero_le _) (Nat.zero_le _) ?_
  refine g_iadd (v := (0 + (f_X7_oneIf (bb (ω (B + 4) 3)) ω))) C dX5_ignitersOn_34 rfl ?_
  refine g_istore_n (lv' := [(1, .int (0 + (f_X7_oneIf (bb (ω (B + 4) 3)) ω))), (5, .ref (ad (B + 4))), (4, .int 0), (3, .int 4), (2, .ref (ad (B + 3))), (0, .ref (ad B))]) C dX5_ignitersOn_35 rfl (by decide) rfl ?_
  refine g_iinc (k := 2) (v := 1) (lv' := [(4, .int 1), (1, .int (0 + (f_X7_oneIf (bb (ω (B + 4) 3)) ω))), (5, .ref (ad (B + 4))), (3, .int 4), (2, .ref (ad (B + 3))), (0, .ref (ad B))]) C dX5_ignitersOn_36 rfl (by decide) (by decide) rfl ?_
  refine g_goto (tgt := 13) C dX5_ignitersOn_39 (by decide) ?_
  refine g_iload C dX5_ignitersOn_13 0 rfl ?_
  refine g_iload_n C dX5_ignitersOn_15 rfl 3 rfl ?_
  refine g_icmp_ge (tgt := 42) C dX5_ignitersOn_16 (by decide) (fun z => absurd z (by decide)) (fun _ => ?_)
  refine g_aload_n C dX5_ignitersOn_19 rfl 4 rfl ?_
  refine g_iload C dX5_ignitersOn_20 0 rfl ?_
  refine g_aldq (k := 1) (v := .ref (ad (B + 5))) C 2 (bS3 hB) (mk_3 (kS3 hB)) rfl (by unfold vp_in; decide) rfl rfl dX5_ignitersOn_22 ?_
  refine g_astore (lv' := [(5, .ref (ad (B + 5))), (4, .int 1), (1, .int (0 + (f_X7_oneIf (bb (ω (B + 4) 3)) ω))), (3, .int 4), (2, .ref (ad (B + 3))), (0, .ref (ad B))]) C dX5_ignitersOn_23 (by decide) rfl ?_
  refine g_iload_n C dX5_ignitersOn_25 rfl 2 rfl ?_
  refine g_aload C dX5_ignitersOn_26 0 rfl ?_
  refine g_get (v := .int (bb (ω (B + 5) 3))) C iX0 (bS5 hB) (mk_4 (kS5 hB)) rfl 3 (by decide) L123 rfl dX5_ignitersOn_28 ?_
  refine g_callSN (rest := [.int (0 + (f_X7_oneIf (bb (ω (B + 4) 3)) ω))]) (st1 := [.int (f_X7_oneIf (bb (ω (B + 5) 3)) ω), .int (0 + (f_X7_oneIf (bb (ω (B + 4) 3)) ω))]) C (c_X7_oneIf (bb (ω (B + 5) 3)) ω) (va_cnB 1 C.hts gX5_ignitersOn_X7_oneIf_n126 rfl rfl rfl (nw8 C.hN) (C.hts _ IX7) md_X7_oneIf.2 ⟨Nat.le_of_ble_eq_true rfl, Nat.le_of_ble_eq_true rfl⟩) TX7_oneIf rfl rfl rfl (Nat.le_of_ble_eq_true rfl) dX5_ignitersOn_31 (Nat.zero_le _) (Nat.zero_le _) ?_
  refine g_iadd (v := ((0 + (f_X7_oneIf (bb (ω (B + 4) 3)) ω)) + (f_X7_oneIf (bb (ω (B + 5) 3)) ω))) C dX5_ignitersOn_34 rfl ?_
  refine g_istore_n (lv' := [(1, .int ((0 + (f_X7_oneIf (bb (ω (B + 4) 3)) ω)) + (f_X7_oneIf (bb (ω (B + 5) 3)) ω))), (5, .ref (ad (B + 5))), (4, .int 1), (3, .int 4), (2, .ref (ad (B + 3))), (0, .ref (ad B))]) C dX5_ignitersOn_35 rfl (by decide) rfl ?_
  refine g_iinc (k := 2) (v := 2) (lv' := [(4, .int 2), (1, .int ((0 + (f_X7_oneIf (bb (ω (B + 4) 3)) ω)) + (f_X7_oneIf (bb (ω (B + 5) 3)) ω))), (5, .ref (ad (B + 5))), (3, .int 4), (2, .ref (ad (B + 3))), (0, .ref (ad B))]) C dX5_ignitersOn_36 rfl (by decide) (by decide) rfl ?_
  refine g_goto (tgt := 13) C dX5_ignitersOn_39 (by decide) ?_
  refine g_iload C dX5_ignitersOn_13 0 rfl ?_
  refine g_iload_n C dX5_ignitersOn_15 rfl 3 rfl ?_
  refine g_icmp_ge (tgt := 42) C dX5_ignitersOn_16 (by decide) (fun z => absurd z (by decide)) (fun _ => ?_)
  refine g_aload_n C dX5_ignitersOn_19 rfl 4 rfl ?_
  refine g_iload C dX5_ignitersOn_20 0 rfl ?_
  refine g_aldq (k := 2) (v := .ref (ad (B + 6))) C 2 (bS3 hB) (mk_3 (kS3 hB)) rfl (by unfold vp_in; decide) rfl rfl dX5_ignitersOn_22 ?_
  refine g_astore (lv' := [(5, .ref (ad (B + 6))), (4, .int 2), (1, .int ((0 + (f_X7_oneIf (bb (ω (B + 4) 3)) ω)) + (f_X7_oneIf (bb (ω (B + 5) 3)) ω))), (3, .int 4), (2, .ref (ad (B + 3))), (0, .ref (ad B))]) C dX5_ignitersOn_23 (by decide) rfl ?_
  refine g_iload_n C dX5_ignitersOn_25 rfl 2 rfl ?_
  refine g_aload C dX5_ignitersOn_26 0 rfl ?_
  refine g_get (v := .int (bb (ω (B + 6) 3))) C iX0 (bS6 hB) (mk_4 (kS6 hB)) rfl 3 (by decide) L123 rfl dX5_ignitersOn_28 ?_
  refine g_callSN (rest := [.int ((0 + (f_X7_oneIf (bb (ω (B + 4) 3)) ω)) + (f_X7_oneIf (bb (ω (B + 5) 3)) ω))]) (st1 := [.int (f_X7_oneIf (bb (ω (B + 6) 3)) ω), .int ((0 + (f_X7_oneIf (bb (ω (B + 4) 3)) ω)) + (f_X7_oneIf (bb (ω (B + 5) 3)) ω))]) C (c_X7_oneIf (bb (ω (B + 6) 3)) ω) (va_cnB 1 C.hts gX5_ignitersOn_X7_oneIf_n126 rfl rfl rfl (nw8 C.hN) (C.hts _ IX7) md_X7_oneIf.2 ⟨Nat.le_of_ble_eq_true rfl, Nat.le_of_ble_eq_true rfl⟩) TX7_oneIf rfl rfl rfl (Nat.le_of_ble_eq_true rfl) dX5_ignitersOn_31 (Nat.zero_le _) (Nat.zero_le _) ?_
  refine g_iadd (v := (((0 + (f_X7_oneIf (bb (ω (B + 4) 3)) ω)) + (f_X7_oneIf (bb (ω (B + 5) 3)) ω)) + (f_X7_oneIf (bb (ω (B + 6) 3)) ω))) C dX5_ignitersOn_34 rfl ?_
  refine g_istore_n (lv' := [(1, .int (((0 + (f_X7_oneIf (bb (ω (B + 4) 3)) ω)) + (f_X7_oneIf (bb (ω (B + 5) 3)) ω)) + (f_X7_oneIf (bb (ω (B + 6) 3)) ω))), (5, .ref (ad (B + 6))), (4, .int 2), (3, .int 4), (2, .ref (ad (B + 3))), (0, .ref (ad B))]) C dX5_ignitersOn_35 rfl (by decide) rfl ?_
  refine g_iinc (k := 2) (v := 3) (lv' := [(4, .int 3), (1, .int (((0 + (f_X7_oneIf (bb (ω (B + 4) 3)) ω)) + (f_X7_oneIf (bb (ω (B + 5) 3)) ω)) + (f_X7_oneIf (bb (ω (B + 6) 3)) ω))), (5, .ref (ad (B + 6))), (3, .int 4), (2, .ref (ad (B + 3))), (0, .ref (ad B))]) C dX5_ignitersOn_36 rfl (by decide) (by decide) rfl ?_
  refine g_goto (tgt := 13) C dX5_ignitersOn_39 (by decide) ?_
  refine g_iload C dX5_ignitersOn_13 0 rfl ?_
  refine g_iload_n C dX5_ignitersOn_15 rfl 3 rfl ?_
  refine g_icmp_ge (tgt := 42) C dX5_ignitersOn_16 (by decide) (fun z => absurd z (by decide)) (fun _ => ?_)
  refine g_aload_n C dX5_ignitersOn_19 rfl 4 rfl ?_
  refine g_iload C dX5_ignitersOn_20 0 rfl ?_
  refine g_aldq (k := 3) (v := .ref (ad (B + 7))) C 2 (bS3 hB) (mk_3 (kS3 hB)) rfl (by unfold vp_in; decide) rfl rfl dX5_ignitersOn_22 ?_
  refine g_astore (lv' := [(5, .ref (ad (B + 7))), (4, .int 3), (1, .int (((0 + (f_X7_oneIf (bb (ω (B + 4) 3)) ω)) + (f_X7_oneIf (bb (ω (B + 5) 3)) ω)) + (f_X7_oneIf (bb (ω (B + 6) 3)) ω))), (3, .int 4), (2, .ref (ad (B + 3))), (0, .ref (ad B))]) C dX5_ignitersOn_23 (by decide) rfl ?_
  refine g_iload_n C dX5_ignitersOn_25 rfl 2 rfl ?_
  refine g_aload C dX5_ignitersOn_26 0 rfl ?_
  refine g_get (v := .int (bb (ω (B + 7) 3))) C iX0 (bS7 hB) (mk_4 (kS7 hB)) rfl 3 (by decide) L123 rfl dX5_ignitersOn_28 ?_
  refine g_callSN (rest := [.int (((0 + (f_X7_oneIf (bb (ω (B + 4) 3)) ω)) + (f_X7_oneIf (bb (ω (B + 5) 3)) ω)) + (f_X7_oneIf (bb (ω (B + 6) 3)) ω))]) (st1 := [.int (f_X7_oneIf (bb (ω (B + 7) 3)) ω), .int (((0 + (f_X7_oneIf (bb (ω (B + 4) 3)) ω)) + (f_X7_oneIf (bb (ω (B + 5) 3)) ω)) + (f_X7_oneIf (bb (ω (B + 6) 3)) ω))]) C (c_X7_oneIf (bb (ω (B + 7) 3)) ω) (va_cnB 1 C.hts gX5_ignitersOn_X7_oneIf_n126 rfl rfl rfl (nw8 C.hN) (C.hts _ IX7) md_X7_oneIf.2 ⟨Nat.le_of_ble_eq_true rfl, Nat.le_of_ble_eq_true rfl⟩) TX7_oneIf rfl rfl rfl (Nat.le_of_ble_eq_true rfl) dX5_ignitersOn_31 (Nat.zero_le _) (Nat.zero_le _) ?_
  refine g_iadd (v := ((((0 + (f_X7_oneIf (bb (ω (B + 4) 3)) ω)) + (f_X7_oneIf (bb (ω (B + 5) 3)) ω)) + (f_X7_oneIf (bb (ω (B + 6) 3)) ω)) + (f_X7_oneIf (bb (ω (B + 7) 3)) ω))) C dX5_ignitersOn_34 rfl ?_
  refine g_istore_n (lv' := [(1, .int ((((0 + (f_X7_oneIf (bb (ω (B + 4) 3)) ω)) + (f_X7_oneIf (bb (ω (B + 5) 3)) ω)) + (f_X7_oneIf (bb (ω (B + 6) 3)) ω)) + (f_X7_oneIf (bb (ω (B + 7) 3)) ω))), (5, .ref (ad (B + 7))), (4, .int 3), (3, .int 4), (2, .ref (ad (B + 3))), (0, .ref (ad B))]) C dX5_ignitersOn_35 rfl (by decide) rfl ?_
  refine g_iinc (k := 2) (v := 4) (lv' := [(4, .int 4), (1, .int ((((0 + (f_X7_oneIf (bb (ω (B + 4) 3)) ω)) + (f_X7_oneIf (bb (ω (B + 5) 3)) ω)) + (f_X7_oneIf (bb (ω (B + 6) 3)) ω)) + (f_X7_oneIf (bb (ω (B + 7) 3)) ω))), (5, .ref (ad (B + 7))), (3, .int 4), (2, .ref (ad (B + 3))), (0, .ref (ad B))]) C dX5_ignitersOn_36 rfl (by decide) (by decide) rfl ?_
  refine g_goto (tgt := 13) C dX5_ignitersOn_39 (by decide) ?_
  refine g_iload C dX5_ignitersOn_13 0 rfl ?_
  refine g_iload_n C dX5_ignitersOn_15 rfl 3 rfl ?_
  refine g_icmp_ge (tgt := 42) C dX5_ignitersOn_16 (by decide) (fun _ => ?_) (fun z => absurd z (by decide))
  refine g_iload_n C dX5_ignitersOn_42 rfl 1 rfl ?_
  exact g_iret C hret hlk (e1.trans (congrArg (fun z => some (Value.int z)) rfl)) e2 dX5_ignitersOn_43
abbrev rm_X5_flames : Room := { frames := 1, cells := 0, slots := 0, locals := 20 }
theorem md_X5_flames : yX5_flames.cls = RX5 ∧ yX5_flames.cls ≠ "java/lang/invoke/MethodHandle" ∧ yX5_flames.cls ≠ "java/lang/invoke/VarHandle" ∧ (parseMethodDescriptor yX5_flames.desc).map (fun d => d.parameters.length) = some 0 := by decide +kernel
def f_X5_flames (B : Nat) (ω : Mem) : Int32 := ((((0 + (f_X7_oneIf (bb (ω (B + 4) 4)) ω)) + (f_X7_oneIf (bb (ω (B + 5) 4)) ω)) + (f_X7_oneIf (bb (ω (B + 6) 4)) ω)) + (f_X7_oneIf (bb (ω (B + 7) 4)) ω))
set_option maxRecDepth 100000 in
set_option maxHeartbeats 4000000 in
theorem c_X5_flames {l_ : Launch} {sa : Nat → Nat} {D : va_G} {X : Nat → ClassId} {ad : Nat → Nat} (B : Nat) (hB : isS B) (ω : Mem)  : CT l_ yX5_flames wsX5_flames rm_X5_flames sa D (tyX X) 120 ad (mk X ad ω) [.ref (ad B)] (some (.int (f_X5_flames B ω)) : Option Value) (mk X ad ω) := by
  refine ct_of [(0, .ref (ad B))] (by decide +kernel) rfl rfl (Nat.le_of_ble_eq_true rfl) rfl ?_
  intro p_ e_ s_ m_ args_ below_ meth_ c_ C hret hlk hin
  have e1 : (some (.int (f_X5_flames B ω)) : Option Value) = (some (.int (f_X5_flames B ω)) : Option Value) := rfl
  have e2 : mk X ad ω = mk X ad ω := rfl
  have iX0 : ∀ w ∈ u_ws RX0 TX0 10, w ∈ wsX5_flames := by decide +kernel
  have iX5 : ∀ w ∈ u_ws RX5 TX5 8, w ∈ wsX5_flames := by decide +kernel
  have IX7 : Cond.initialized RX7 ∈ wsX5_flames := by decide +kernel
  have L22 : Cond.fieldLink RX5 22 (TX5 1).1 (TX5 1).2.1 (TX5 1).2.2.1 ∈ wsX5_flames := by decide +kernel
  have L80 : Cond.fieldLink RX5 80 (TX0 4).1 (TX0 4).2.1 (TX0 4).2.2.1 ∈ wsX5_flames := by decide +kernel
  have TX7_oneIf : Cond.static yX7_oneIf ∈ wsX5_flames := by decide +kernel
  refine g_iconst (v := 0) C dX5_flames_0 (by decide) ?_
  refine g_istore_n (lv' := [(1, .int 0), (0, .ref (ad B))]) C dX5_flames_1 rfl (by decide) rfl ?_
  refine g_aload_n C dX5_flames_2 rfl 1 rfl ?_
  refine g_get (v := .ref (ad (B + 3))) C iX5 (bS0 hB) (mk_1 (kS0 hB)) rfl 1 (by decide) L22 rfl dX5_flames_3 ?_
  refine g_astore_n (lv' := [(2, .ref (ad (B + 3))), (1, .int 0), (0, .ref (ad B))]) C dX5_flames_6 rfl (by decide) rfl ?_
  refine g_aload_n C dX5_flames_7 rfl 0 rfl ?_
  refine g_alen (v := 4) C 2 (bS3 hB) (mk_3 (kS3 hB)) rfl rfl dX5_flames_8 ?_
  refine g_istore_n (lv' := [(3, .int 4), (2, .ref (ad (B + 3))), (1, .int 0), (0, .ref (ad B))]) C dX5_flames_9 rfl (by decide) rfl ?_
  refine g_iconst (v := 0) C dX5_flames_10 (by decide) ?_
  refine g_istore (lv' := [(4, .int 0), (3, .int 4), (2, .ref (ad (B + 3))), (1, .int 0), (0, .ref (ad B))]) C dX5_flames_11 (by decide) rfl ?_
  refine g_iload C dX5_flames_13 0 rfl ?_
  refine g_iload_n C dX5_flames_15 rfl 1 rfl ?_
  refine g_icmp_ge (tgt := 42) C dX5_flames_16 (by decide) (fun z => absurd z (by decide)) (fun _ => ?_)
  refine g_aload_n C dX5_flames_19 rfl 2 rfl ?_
  refine g_iload C dX5_flames_20 0 rfl ?_
  refine g_aldq (k := 0) (v := .ref (ad (B + 4))) C 2 (bS3 hB) (mk_3 (kS3 hB)) rfl (by unfold vp_in; decide) rfl rfl dX5_flames_22 ?_
  refine g_astore (lv' := [(5, .ref (ad (B + 4))), (4, .int 0), (3, .int 4), (2, .ref (ad (B + 3))), (1, .int 0), (0, .ref (ad B))]) C dX5_flames_23 (by decide) rfl ?_
  refine g_iload_n C dX5_flames_25 rfl 4 rfl ?_
  refine g_aload C dX5_flames_26 0 rfl ?_
  refine g_get (v := .int (bb (ω (B + 4) 4))) C iX0 (bS4 hB) (mk_4 (kS4 hB)) rfl 4 (by decide) L80 rfl dX5_flames_28 ?_
  refine g_callSN (rest := [.int 0]) (st1 := [.int (f_X7_oneIf (bb (ω (B + 4) 4)) ω), .int 0]) C (c_X7_oneIf (bb (ω (B + 4) 4)) ω) (va_cnB 1 C.hts gX5_flames_X7_oneIf_n126 rfl rfl rfl (nw8 C.hN) (C.hts _ IX7) md_X7_oneIf.2 ⟨Nat.le_of_ble_eq_true rfl, Nat.le_of_ble_eq_true rfl⟩) TX7_oneIf rfl rfl rfl (Nat.le_of_ble_eq_true rfl) dX5_flames_31 (Nat.zero_le _) (Nat.zero_le _) ?_
  refine g_iadd (v := (0 + (f_X7_oneIf (bb (ω (B + 4) 4)) ω))) C dX5_flames_34 rfl ?_
  refine g_istore_n (lv' := [(1, .int (0 + (f_X7_oneIf (bb (ω (B + 4) 4)) ω))), (5, .ref (ad (B + 4))), (4, .int 0), (3, .int 4), (2, .ref (ad (B + 3))), (0, .ref (ad B))]) C dX5_flames_35 rfl (by decide) rfl ?_
  refine g_iinc (k := 2) (v := 1) (lv' := [(4, .int 1), (1, .int (0 + (f_X7_oneIf (bb (ω (B + 4) 4)) ω))), (5, .ref (ad (B + 4))), (3, .int 4), (2, .ref (ad (B + 3))), (0, .ref (ad B))]) C dX5_flames_36 rfl (by decide) (by decide) rfl ?_
  refine g_goto (tgt := 13) C dX5_flames_39 (by decide) ?_
  refine g_iload C dX5_flames_13 0 rfl ?_
  refine g_iload_n C dX5_flames_15 rfl 3 rfl ?_
  refine g_icmp_ge (tgt := 42) C dX5_flames_16 (by decide) (fun z => absurd z (by decide)) (fun _ => ?_)
  refine g_aload_n C dX5_flames_19 rfl 4 rfl ?_
  refine g_iload C dX5_flames_20 0 rfl ?_
  refine g_aldq (k := 1) (v := .ref (ad (B + 5))) C 2 (bS3 hB) (mk_3 (kS3 hB)) rfl (by unfold vp_in; decide) rfl rfl dX5_flames_22 ?_
  refine g_astore (lv' := [(5, .ref (ad (B + 5))), (4, .int 1), (1, .int (0 + (f_X7_oneIf (bb (ω (B + 4) 4)) ω))), (3, .int 4), (2, .ref (ad (B + 3))), (0, .ref (ad B))]) C dX5_flames_23 (by decide) rfl ?_
  refine g_iload_n C dX5_flames_25 rfl 2 rfl ?_
  refine g_aload C dX5_flames_26 0 rfl ?_
  refine g_get (v := .int (bb (ω (B + 5) 4))) C iX0 (bS5 hB) (mk_4 (kS5 hB)) rfl 4 (by decide) L80 rfl dX5_flames_28 ?_
  refine g_callSN (rest := [.int (0 + (f_X7_oneIf (bb (ω (B + 4) 4)) ω))]) (st1 := [.int (f_X7_oneIf (bb (ω (B + 5) 4)) ω), .int (0 + (f_X7_oneIf (bb (ω (B + 4) 4)) ω))]) C (c_X7_oneIf (bb (ω (B + 5) 4)) ω) (va_cnB 1 C.hts gX5_flames_X7_oneIf_n126 rfl rfl rfl (nw8 C.hN) (C.hts _ IX7) md_X7_oneIf.2 ⟨Nat.le_of_ble_eq_true rfl, Nat.le_of_ble_eq_true rfl⟩) TX7_oneIf rfl rfl rfl (Nat.le_of_ble_eq_true rfl) dX5_flames_31 (Nat.zero_le _) (Nat.zero_le _) ?_
  refine g_iadd (v := ((0 + (f_X7_oneIf (bb (ω (B + 4) 4)) ω)) + (f_X7_oneIf (bb (ω (B + 5) 4)) ω))) C dX5_flames_34 rfl ?_
  refine g_istore_n (lv' := [(1, .int ((0 + (f_X7_oneIf (bb (ω (B + 4) 4)) ω)) + (f_X7_oneIf (bb (ω (B + 5) 4)) ω))), (5, .ref (ad (B + 5))), (4, .int 1), (3, .int 4), (2, .ref (ad (B + 3))), (0, .ref (ad B))]) C dX5_flames_35 rfl (by decide) rfl ?_
  refine g_iinc (k := 2) (v := 2) (lv' := [(4, .int 2), (1, .int ((0 + (f_X7_oneIf (bb (ω (B + 4) 4)) ω)) + (f_X7_oneIf (bb (ω (B + 5) 4)) ω))), (5, .ref (ad (B + 5))), (3, .int 4), (2, .ref (ad (B + 3))), (0, .ref (ad B))]) C dX5_flames_36 rfl (by decide) (by decide) rfl ?_
  refine g_goto (tgt := 13) C dX5_flames_39 (by decide) ?_
  refine g_iload C dX5_flames_13 0 rfl ?_
  refine g_iload_n C dX5_flames_15 rfl 3 rfl ?_
  refine g_icmp_ge (tgt := 42) C dX5_flames_16 (by decide) (fun z => absurd z (by decide)) (fun _ => ?_)
  refine g_aload_n C dX5_flames_19 rfl 4 rfl ?_
  refine g_iload C dX5_flames_20 0 rfl ?_
  refine g_aldq (k := 2) (v := .ref (ad (B + 6))) C 2 (bS3 hB) (mk_3 (kS3 hB)) rfl (by unfold vp_in; decide) rfl rfl dX5_flames_22 ?_
  refine g_astore (lv' := [(5, .ref (ad (B + 6))), (4, .int 2), (1, .int ((0 + (f_X7_oneIf (bb (ω (B + 4) 4)) ω)) + (f_X7_oneIf (bb (ω (B + 5) 4)) ω))), (3, .int 4), (2, .ref (ad (B + 3))), (0, .ref (ad B))]) C dX5_flames_23 (by decide) rfl ?_
  refine g_iload_n C dX5_flames_25 rfl 2 rfl ?_
  refine g_aload C dX5_flames_26 0 rfl ?_
  refine g_get (v := .int (bb (ω (B + 6) 4))) C iX0 (bS6 hB) (mk_4 (kS6 hB)) rfl 4 (by decide) L80 rfl dX5_flames_28 ?_
  refine g_callSN (rest := [.int ((0 + (f_X7_oneIf (bb (ω (B + 4) 4)) ω)) + (f_X7_oneIf (bb (ω (B + 5) 4)) ω))]) (st1 := [.int (f_X7_oneIf (bb (ω (B + 6) 4)) ω), .int ((0 + (f_X7_oneIf (bb (ω (B + 4) 4)) ω)) + (f_X7_oneIf (bb (ω (B + 5) 4)) ω))]) C (c_X7_oneIf (bb (ω (B + 6) 4)) ω) (va_cnB 1 C.hts gX5_flames_X7_oneIf_n126 rfl rfl rfl (nw8 C.hN) (C.hts _ IX7) md_X7_oneIf.2 ⟨Nat.le_of_ble_eq_true rfl, Nat.le_of_ble_eq_true rfl⟩) TX7_oneIf rfl rfl rfl (Nat.le_of_ble_eq_true rfl) dX5_flames_31 (Nat.zero_le _) (Nat.zero_le _) ?_
  refine g_iadd (v := (((0 + (f_X7_oneIf (bb (ω (B + 4) 4)) ω)) + (f_X7_oneIf (bb (ω (B + 5) 4)) ω)) + (f_X7_oneIf (bb (ω (B + 6) 4)) ω))) C dX5_flames_34 rfl ?_
  refine g_istore_n (lv' := [(1, .int (((0 + (f_X7_oneIf (bb (ω (B + 4) 4)) ω)) + (f_X7_oneIf (bb (ω (B + 5) 4)) ω)) + (f_X7_oneIf (bb (ω (B + 6) 4)) ω))), (5, .ref (ad (B + 6))), (4, .int 2), (3, .int 4), (2, .ref (ad (B + 3))), (0, .ref (ad B))]) C dX5_flames_35 rfl (by decide) rfl ?_
  refine g_iinc (k := 2) (v := 3) (lv' := [(4, .int 3), (1, .int (((0 + (f_X7_oneIf (bb (ω (B + 4) 4)) ω)) + (f_X7_oneIf (bb (ω (B + 5) 4)) ω)) + (f_X7_oneIf (bb (ω (B + 6) 4)) ω))), (5, .ref (ad (B + 6))), (3, .int 4), (2, .ref (ad (B + 3))), (0, .ref (ad B))]) C dX5_flames_36 rfl (by decide) (by decide) rfl ?_
  refine g_goto (tgt := 13) C dX5_flames_39 (by decide) ?_
  refine g_iload C dX5_flames_13 0 rfl ?_
  refine g_iload_n C dX5_flames_15 rfl 3 rfl ?_
  refine g_icmp_ge (tgt := 42) C dX5_flames_16 (by decide) (fun z => absurd z (by decide)) (fun _ => ?_)
  refine g_aload_n C dX5_flames_19 rfl 4 rfl ?_
  refine g_iload C dX5_flames_20 0 rfl ?_
  refine g_aldq (k := 3) (v := .ref (ad (B + 7))) C 2 (bS3 hB) (mk_3 (kS3 hB)) rfl (by unfold vp_in; decide) rfl rfl dX5_flames_22 ?_
  refine g_astore (lv' := [(5, .ref (ad (B + 7))), (4, .int 3), (1, .int (((0 + (f_X7_oneIf (bb (ω (B + 4) 4)) ω)) + (f_X7_oneIf (bb (ω (B + 5) 4)) ω)) + (f_X7_oneIf (bb (ω (B + 6) 4)) ω))), (3, .int 4), (2, .ref (ad (B + 3))), (0, .ref (ad B))]) C dX5_flames_23 (by decide) rfl ?_
  refine g_iload_n C dX5_flames_25 rfl 2 rfl ?_
  refine g_aload C dX5_flames_26 0 rfl ?_
  refine g_get (v := .int (bb (ω (B + 7) 4))) C iX0 (bS7 hB) (mk_4 (kS7 hB)) rfl 4 (by decide) L80 rfl dX5_flames_28 ?_
  refine g_callSN (rest := [.int (((0 + (f_X7_oneIf (bb (ω (B + 4) 4)) ω)) + (f_X7_oneIf (bb (ω (B + 5) 4)) ω)) + (f_X7_oneIf (bb (ω (B + 6) 4)) ω))]) (st1 := [.int (f_X7_oneIf (bb (ω (B + 7) 4)) ω), .int (((0 + (f_X7_oneIf (bb (ω (B + 4) 4)) ω)) + (f_X7_oneIf (bb (ω (B + 5) 4)) ω)) + (f_X7_oneIf (bb (ω (B + 6) 4)) ω))]) C (c_X7_oneIf (bb (ω (B + 7) 4)) ω) (va_cnB 1 C.hts gX5_flames_X7_oneIf_n126 rfl rfl rfl (nw8 C.hN) (C.hts _ IX7) md_X7_oneIf.2 ⟨Nat.le_of_ble_eq_true rfl, Nat.le_of_ble_eq_true rfl⟩) TX7_oneIf rfl rfl rfl (Nat.le_of_ble_eq_true rfl) dX5_flames_31 (Nat.zero_le _) (Nat.zero_le _) ?_
  refine g_iadd (v := ((((0 + (f_X7_oneIf (bb (ω (B + 4) 4)) ω)) + (f_X7_oneIf (bb (ω (B + 5) 4)) ω)) + (f_X7_oneIf (bb (ω (B + 6) 4)) ω)) + (f_X7_oneIf (bb (ω (B + 7) 4)) ω))) C dX5_flames_34 rfl ?_
  refine g_istore_n (lv' := [(1, .int ((((0 + (f_X7_oneIf (bb (ω (B + 4) 4)) ω)) + (f_X7_oneIf (bb (ω (B + 5) 4)) ω)) + (f_X7_oneIf (bb (ω (B + 6) 4)) ω)) + (f_X7_oneIf (bb (ω (B + 7) 4)) ω))), (5, .ref (ad (B + 7))), (4, .int 3), (3, .int 4), (2, .ref (ad (B + 3))), (0, .ref (ad B))]) C dX5_flames_35 rfl (by decide) rfl ?_
  refine g_iinc (k := 2) (v := 4) (lv' := [(4, .int 4), (1, .int ((((0 + (f_X7_oneIf (bb (ω (B + 4) 4)) ω)) + (f_X7_oneIf (bb (ω (B + 5) 4)) ω)) + (f_X7_oneIf (bb (ω (B + 6) 4)) ω)) + (f_X7_oneIf (bb (ω (B + 7) 4)) ω))), (5, .ref (ad (B + 7))), (3, .int 4), (2, .ref (ad (B + 3))), (0, .ref (ad B))]) C dX5_flames_36 rfl (by decide) (by decide) rfl ?_
  refine g_goto (tgt := 13) C dX5_flames_39 (by decide) ?_
  refine g_iload C dX5_flames_13 0 rfl ?_
  refine g_iload_n C dX5_flames_15 rfl 3 rfl ?_
  refine g_icmp_ge (tgt := 42) C dX5_flames_16 (by decide) (fun _ => ?_) (fun z => absurd z (by decide))
  refine g_iload_n C dX5_flames_42 rfl 1 rfl ?_
  exact g_iret C hret hlk (e1.trans (congrArg (fun z => some (Value.int z)) rfl)) e2 dX5_flames_43
abbrev rm_X5_openValves : Room := { frames := 3, cells := 0, slots := 0, locals := 63 }
theorem md_X5_openValves : yX5_openValves.cls = RX5 ∧ yX5_openValves.cls ≠ "java/lang/invoke/MethodHandle" ∧ yX5_openValves.cls ≠ "java/lang/invoke/VarHandle" ∧ (parseMethodDescriptor yX5_openValves.desc).map (fun d => d.parameters.length) = some 0 := by decide +kernel
def f_X5_openValves (B : Nat) (ω : Mem) : Int32 := ((((0 + (f_X7_oneIf (f_X5_isOpen B (B + 4) ω) ω)) + (f_X7_oneIf (f_X5_isOpen B (B + 5) ω) ω)) + (f_X7_oneIf (f_X5_isOpen B (B + 6) ω) ω)) + (f_X7_oneIf (f_X5_isOpen B (B + 7) ω) ω))
set_option maxRecDepth 100000 in
set_option maxHeartbeats 4000000 in
theorem c_X5_openValves {l_ : Launch} {sa : Nat → Nat} {D : va_G} {X : Nat → ClassId} {ad : Nat → Nat} (B : Nat) (hB : isS B) (ω : Mem)  : CT l_ yX5_openValves wsX5_openValves rm_X5_openValves sa D (tyX X) 120 ad (mk X ad ω) [.ref (ad B)] (some (.int (f_X5_openValves B ω)) : Option Value) (mk X ad ω) := by
  refine ct_of [(0, .ref (ad B))] (by decide +kernel) rfl rfl (Nat.le_of_ble_eq_true rfl) rfl ?_
  intro p_ e_ s_ m_ args_ below_ meth_ c_ C hret hlk hin
  have e1 : (some (.int (f_X5_openValves B ω)) : Option Value) = (some (.int (f_X5_openValves B ω)) : Option Value) := rfl
  have e2 : mk X ad ω = mk X ad ω := rfl
  have iX5 : ∀ w ∈ u_ws RX5 TX5 8, w ∈ wsX5_openValves := by decide +kernel
  have IX7 : Cond.initialized RX7 ∈ wsX5_openValves := by decide +kernel
  have L22 : Cond.fieldLink RX5 22 (TX5 1).1 (TX5 1).2.1 (TX5 1).2.2.1 ∈ wsX5_openValves := by decide +kernel
  have TX7_oneIf : Cond.static yX7_oneIf ∈ wsX5_openValves := by decide +kernel
  refine g_iconst (v := 0) C dX5_openValves_0 (by decide) ?_
  refine g_istore_n (lv' := [(1, .int 0), (0, .ref (ad B))]) C dX5_openValves_1 rfl (by decide) rfl ?_
  refine g_aload_n C dX5_openValves_2 rfl 1 rfl ?_
  refine g_get (v := .ref (ad (B + 3))) C iX5 (bS0 hB) (mk_1 (kS0 hB)) rfl 1 (by decide) L22 rfl dX5_openValves_3 ?_
  refine g_astore_n (lv' := [(2, .ref (ad (B + 3))), (1, .int 0), (0, .ref (ad B))]) C dX5_openValves_6 rfl (by decide) rfl ?_
  refine g_aload_n C dX5_openValves_7 rfl 0 rfl ?_
  refine g_alen (v := 4) C 2 (bS3 hB) (mk_3 (kS3 hB)) rfl rfl dX5_openValves_8 ?_
  refine g_istore_n (lv' := [(3, .int 4), (2, .ref (ad (B + 3))), (1, .int 0), (0, .ref (ad B))]) C dX5_openValves_9 rfl (by decide) rfl ?_
  refine g_iconst (v := 0) C dX5_openValves_10 (by decide) ?_
  refine g_istore (lv' := [(4, .int 0), (3, .int 4), (2, .ref (ad (B + 3))), (1, .int 0), (0, .ref (ad B))]) C dX5_openValves_11 (by decide) rfl ?_
  refine g_iload C dX5_openValves_13 0 rfl ?_
  refine g_iload_n C dX5_openValves_15 rfl 1 rfl ?_
  refine g_icmp_ge (tgt := 43) C dX5_openValves_16 (by decide) (fun z => absurd z (by decide)) (fun _ => ?_)
  refine g_aload_n C dX5_openValves_19 rfl 2 rfl ?_
  refine g_iload C dX5_openValves_20 0 rfl ?_
  refine g_aldq (k := 0) (v := .ref (ad (B + 4))) C 2 (bS3 hB) (mk_3 (kS3 hB)) rfl (by unfold vp_in; decide) rfl rfl dX5_openValves_22 ?_
  refine g_astore (lv' := [(5, .ref (ad (B + 4))), (4, .int 0), (3, .int 4), (2, .ref (ad (B + 3))), (1, .int 0), (0, .ref (ad B))]) C dX5_openValves_23 (by decide) rfl ?_
  refine g_iload_n C dX5_openValves_25 rfl 4 rfl ?_
  refine g_aload_n C dX5_openValves_26 rfl 5 rfl ?_
  refine g_aload C dX5_openValves_27 0 rfl ?_
  refine g_callV (rest := [.int 0]) (st1 := [.int (f_X5_isOpen B (B + 4) ω), .int 0]) C (c_X5_isOpen B (B + 4) hB (hB).b0 ω) (cwV 1 C.hts gX5_openValves_X5_isOpen rfl rfl rfl md_X5_isOpen ⟨Nat.le_of_ble_eq_true rfl, Nat.le_of_ble_eq_true rfl⟩) (bS0 hB) (mk_1 (kS0 hB)) rfl rfl rfl rfl rfl (Nat.le_of_ble_eq_true rfl) dX5_openValves_29 (Nat.zero_le _) (Nat.zero_le _) ?_
  refine g_callSN (rest := [.int 0]) (st1 := [.int (f_X7_oneIf (f_X5_isOpen B (B + 4) ω) ω), .int 0]) C (c_X7_oneIf (f_X5_isOpen B (B + 4) ω) ω) (va_cnB 1 C.hts gX5_openValves_X7_oneIf_n126 rfl rfl rfl (nw8 C.hN) (C.hts _ IX7) md_X7_oneIf.2 ⟨Nat.le_of_ble_eq_true rfl, Nat.le_of_ble_eq_true rfl⟩) TX7_oneIf rfl rfl rfl (Nat.le_of_ble_eq_true rfl) dX5_openValves_32 (Nat.zero_le _) (Nat.zero_le _) ?_
  refine g_iadd (v := (0 + (f_X7_oneIf (f_X5_isOpen B (B + 4) ω) ω))) C dX5_openValves_35 rfl ?_
  refine g_istore_n (lv' := [(1, .int (0 + (f_X7_oneIf (f_X5_isOpen B (B + 4) ω) ω))), (5, .ref (ad (B + 4))), (4, .int 0), (3, .int 4), (2, .ref (ad (B + 3))), (0, .ref (ad B))]) C dX5_openValves_36 rfl (by decide) rfl ?_
  refine g_iinc (k := 2) (v := 1) (lv' := [(4, .int 1), (1, .int (0 + (f_X7_oneIf (f_X5_isOpen B (B + 4) ω) ω))), (5, .ref (ad (B + 4))), (3, .int 4), (2, .ref (ad (B + 3))), (0, .ref (ad B))]) C dX5_openValves_37 rfl (by decide) (by decide) rfl ?_
  refine g_goto (tgt := 13) C dX5_openValves_40 (by decide) ?_
  refine g_iload C dX5_openValves_13 0 rfl ?_
  refine g_iload_n C dX5_openValves_15 rfl 3 rfl ?_
  refine g_icmp_ge (tgt := 43) C dX5_openValves_16 (by decide) (fun z => absurd z (by decide)) (fun _ => ?_)
  refine g_aload_n C dX5_openValves_19 rfl 4 rfl ?_
  refine g_iload C dX5_openValves_20 0 rfl ?_
  refine g_aldq (k := 1) (v := .ref (ad (B + 5))) C 2 (bS3 hB) (mk_3 (kS3 hB)) rfl (by unfold vp_in; decide) rfl rfl dX5_openValves_22 ?_
  refine g_astore (lv' := [(5, .ref (ad (B + 5))), (4, .int 1), (1, .int (0 + (f_X7_oneIf (f_X5_isOpen B (B + 4) ω) ω))), (3, .int 4), (2, .ref (ad (B + 3))), (0, .ref (ad B))]) C dX5_openValves_23 (by decide) rfl ?_
  refine g_iload_n C dX5_openValves_25 rfl 2 rfl ?_
  refine g_aload_n C dX5_openValves_26 rfl 5 rfl ?_
  refine g_aload C dX5_openValves_27 0 rfl ?_
  refine g_callV (rest := [.int (0 + (f_X7_oneIf (f_X5_isOpen B (B + 4) ω) ω))]) (st1 := [.int (f_X5_isOpen B (B + 5) ω), .int (0 + (f_X7_oneIf (f_X5_isOpen B (B + 4) ω) ω))]) C (c_X5_isOpen B (B + 5) hB (hB).b1 ω) (cwV 1 C.hts gX5_openValves_X5_isOpen rfl rfl rfl md_X5_isOpen ⟨Nat.le_of_ble_eq_true rfl, Nat.le_of_ble_eq_true rfl⟩) (bS0 hB) (mk_1 (kS0 hB)) rfl rfl rfl rfl rfl (Nat.le_of_ble_eq_true rfl) dX5_openValves_29 (Nat.zero_le _) (Nat.zero_le _) ?_
  refine g_callSN (rest := [.int (0 + (f_X7_oneIf (f_X5_isOpen B (B + 4) ω) ω))]) (st1 := [.int (f_X7_oneIf (f_X5_isOpen B (B + 5) ω) ω), .int (0 + (f_X7_oneIf (f_X5_isOpen B (B + 4) ω) ω))]) C (c_X7_oneIf (f_X5_isOpen B (B + 5) ω) ω) (va_cnB 1 C.hts gX5_openValves_X7_oneIf_n126 rfl rfl rfl (nw8 C.hN) (C.hts _ IX7) md_X7_oneIf.2 ⟨Nat.le_of_ble_eq_true rfl, Nat.le_of_ble_eq_true rfl⟩) TX7_oneIf rfl rfl rfl (Nat.le_of_ble_eq_true rfl) dX5_openValves_32 (Nat.zero_le _) (Nat.zero_le _) ?_
  refine g_iadd (v := ((0 + (f_X7_oneIf (f_X5_isOpen B (B + 4) ω) ω)) + (f_X7_oneIf (f_X5_isOpen B (B + 5) ω) ω))) C dX5_openValves_35 rfl ?_
  refine g_istore_n (lv' := [(1, .int ((0 + (f_X7_oneIf (f_X5_isOpen B (B + 4) ω) ω)) + (f_X7_oneIf (f_X5_isOpen B (B + 5) ω) ω))), (5, .ref (ad (B + 5))), (4, .int 1), (3, .int 4), (2, .ref (ad (B + 3))), (0, .ref (ad B))]) C dX5_openValves_36 rfl (by decide) rfl ?_
  refine g_iinc (k := 2) (v := 2) (lv' := [(4, .int 2), (1, .int ((0 + (f_X7_oneIf (f_X5_isOpen B (B + 4) ω) ω)) + (f_X7_oneIf (f_X5_isOpen B (B + 5) ω) ω))), (5, .ref (ad (B + 5))), (3, .int 4), (2, .ref (ad (B + 3))), (0, .ref (ad B))]) C dX5_openValves_37 rfl (by decide) (by decide) rfl ?_
  refine g_goto (tgt := 13) C dX5_openValves_40 (by decide) ?_
  refine g_iload C dX5_openValves_13 0 rfl ?_
  refine g_iload_n C dX5_openValves_15 rfl 3 rfl ?_
  refine g_icmp_ge (tgt := 43) C dX5_openValves_16 (by decide) (fun z => absurd z (by decide)) (fun _ => ?_)
  refine g_aload_n C dX5_openValves_19 rfl 4 rfl ?_
  refine g_iload C dX5_openValves_20 0 rfl ?_
  refine g_aldq (k := 2) (v := .ref (ad (B + 6))) C 2 (bS3 hB) (mk_3 (kS3 hB)) rfl (by unfold vp_in; decide) rfl rfl dX5_openValves_22 ?_
  refine g_astore (lv' := [(5, .ref (ad (B + 6))), (4, .int 2), (1, .int ((0 + (f_X7_oneIf (f_X5_isOpen B (B + 4) ω) ω)) + (f_X7_oneIf (f_X5_isOpen B (B + 5) ω) ω))), (3, .int 4), (2, .ref (ad (B + 3))), (0, .ref (ad B))]) C dX5_openValves_23 (by decide) rfl ?_
  refine g_iload_n C dX5_openValves_25 rfl 2 rfl ?_
  refine g_aload_n C dX5_openValves_26 rfl 5 rfl ?_
  refine g_aload C dX5_openValves_27 0 rfl ?_
  refine g_callV (rest := [.int ((0 + (f_X7_oneIf (f_X5_isOpen B (B + 4) ω) ω)) + (f_X7_oneIf (f_X5_isOpen B (B + 5) ω) ω))]) (st1 := [.int (f_X5_isOpen B (B + 6) ω), .int ((0 + (f_X7_oneIf (f_X5_isOpen B (B + 4) ω) ω)) + (f_X7_oneIf (f_X5_isOpen B (B + 5) ω) ω))]) C (c_X5_isOpen B (B + 6) hB (hB).b2 ω) (cwV 1 C.hts gX5_openValves_X5_isOpen rfl rfl rfl md_X5_isOpen ⟨Nat.le_of_ble_eq_true rfl, Nat.le_of_ble_eq_true rfl⟩) (bS0 hB) (mk_1 (kS0 hB)) rfl rfl rfl rfl rfl (Nat.le_of_ble_eq_true rfl) dX5_openValves_29 (Nat.zero_le _) (Nat.zero_le _) ?_
  refine g_callSN (rest := [.int ((0 + (f_X7_oneIf (f_X5_isOpen B (B + 4) ω) ω)) + (f_X7_oneIf (f_X5_isOpen B (B + 5) ω) ω))]) (st1 := [.int (f_X7_oneIf (f_X5_isOpen B (B + 6) ω) ω), .int ((0 + (f_X7_oneIf (f_X5_isOpen B (B + 4) ω) ω)) + (f_X7_oneIf (f_X5_isOpen B (B + 5) ω) ω))]) C (c_X7_oneIf (f_X5_isOpen B (B + 6) ω) ω) (va_cnB 1 C.hts gX5_openValves_X7_oneIf_n126 rfl rfl rfl (nw8 C.hN) (C.hts _ IX7) md_X7_oneIf.2 ⟨Nat.le_of_ble_eq_true rfl, Nat.le_of_ble_eq_true rfl⟩) TX7_oneIf rfl rfl rfl (Nat.le_of_ble_eq_true rfl) dX5_openValves_32 (Nat.zero_le _) (Nat.zero_le _) ?_
  refine g_iadd (v := (((0 + (f_X7_oneIf (f_X5_isOpen B (B + 4) ω) ω)) + (f_X7_oneIf (f_X5_isOpen B (B + 5) ω) ω)) + (f_X7_oneIf (f_X5_isOpen B (B + 6) ω) ω))) C dX5_openValves_35 rfl ?_
  refine g_istore_n (lv' := [(1, .int (((0 + (f_X7_oneIf (f_X5_isOpen B (B + 4) ω) ω)) + (f_X7_oneIf (f_X5_isOpen B (B + 5) ω) ω)) + (f_X7_oneIf (f_X5_isOpen B (B + 6) ω) ω))), (5, .ref (ad (B + 6))), (4, .int 2), (3, .int 4), (2, .ref (ad (B + 3))), (0, .ref (ad B))]) C dX5_openValves_36 rfl (by decide) rfl ?_
  refine g_iinc (k := 2) (v := 3) (lv' := [(4, .int 3), (1, .int (((0 + (f_X7_oneIf (f_X5_isOpen B (B + 4) ω) ω)) + (f_X7_oneIf (f_X5_isOpen B (B + 5) ω) ω)) + (f_X7_oneIf (f_X5_isOpen B (B + 6) ω) ω))), (5, .ref (ad (B + 6))), (3, .int 4), (2, .ref (ad (B + 3))), (0, .ref (ad B))]) C dX5_openValves_37 rfl (by decide) (by decide) rfl ?_
  refine g_goto (tgt := 13) C dX5_openValves_40 (by decide) ?_
  refine g_iload C dX5_openValves_13 0 rfl ?_
  refine g_iload_n C dX5_openValves_15 rfl 3 rfl ?_
  refine g_icmp_ge (tgt := 43) C dX5_openValves_16 (by decide) (fun z => absurd z (by decide)) (fun _ => ?_)
  refine g_aload_n C dX5_openValves_19 rfl 4 rfl ?_
  refine g_iload C dX5_openValves_20 0 rfl ?_
  refine g_aldq (k := 3) (v := .ref (ad (B + 7))) C 2 (bS3 hB) (mk_3 (kS3 hB)) rfl (by unfold vp_in; decide) rfl rfl dX5_openValves_22 ?_
  refine g_astore (lv' := [(5, .ref (ad (B + 7))), (4, .int 3), (1, .int (((0 + (f_X7_oneIf (f_X5_isOpen B (B + 4) ω) ω)) + (f_X7_oneIf (f_X5_isOpen B (B + 5) ω) ω)) + (f_X7_oneIf (f_X5_isOpen B (B + 6) ω) ω))), (3, .int 4), (2, .ref (ad (B + 3))), (0, .ref (ad B))]) C dX5_openValves_23 (by decide) rfl ?_
  refine g_iload_n C dX5_openValves_25 rfl 2 rfl ?_
  refine g_aload_n C dX5_openValves_26 rfl 5 rfl ?_
  refine g_aload C dX5_openValves_27 0 rfl ?_
  refine g_callV (rest := [.int (((0 + (f_X7_oneIf (f_X5_isOpen B (B + 4) ω) ω)) + (f_X7_oneIf (f_X5_isOpen B (B + 5) ω) ω)) + (f_X7_oneIf (f_X5_isOpen B (B + 6) ω) ω))]) (st1 := [.int (f_X5_isOpen B (B + 7) ω), .int (((0 + (f_X7_oneIf (f_X5_isOpen B (B + 4) ω) ω)) + (f_X7_oneIf (f_X5_isOpen B (B + 5) ω) ω)) + (f_X7_oneIf (f_X5_isOpen B (B + 6) ω) ω))]) C (c_X5_isOpen B (B + 7) hB (hB).b3 ω) (cwV 1 C.hts gX5_openValves_X5_isOpen rfl rfl rfl md_X5_isOpen ⟨Nat.le_of_ble_eq_true rfl, Nat.le_of_ble_eq_true rfl⟩) (bS0 hB) (mk_1 (kS0 hB)) rfl rfl rfl rfl rfl (Nat.le_of_ble_eq_true rfl) dX5_openValves_29 (Nat.zero_le _) (Nat.zero_le _) ?_
  refine g_callSN (rest := [.int (((0 + (f_X7_oneIf (f_X5_isOpen B (B + 4) ω) ω)) + (f_X7_oneIf (f_X5_isOpen B (B + 5) ω) ω)) + (f_X7_oneIf (f_X5_isOpen B (B + 6) ω) ω))]) (st1 := [.int (f_X7_oneIf (f_X5_isOpen B (B + 7) ω) ω), .int (((0 + (f_X7_oneIf (f_X5_isOpen B (B + 4) ω) ω)) + (f_X7_oneIf (f_X5_isOpen B (B + 5) ω) ω)) + (f_X7_oneIf (f_X5_isOpen B (B + 6) ω) ω))]) C (c_X7_oneIf (f_X5_isOpen B (B + 7) ω) ω) (va_cnB 1 C.hts gX5_openValves_X7_oneIf_n126 rfl rfl rfl (nw8 C.hN) (C.hts _ IX7) md_X7_oneIf.2 ⟨Nat.le_of_ble_eq_true rfl, Nat.le_of_ble_eq_true rfl⟩) TX7_oneIf rfl rfl rfl (Nat.le_of_ble_eq_true rfl) dX5_openValves_32 (Nat.zero_le _) (Nat.zero_le _) ?_
  refine g_iadd (v := ((((0 + (f_X7_oneIf (f_X5_isOpen B (B + 4) ω) ω)) + (f_X7_oneIf (f_X5_isOpen B (B + 5) ω) ω)) + (f_X7_oneIf (f_X5_isOpen B (B + 6) ω) ω)) + (f_X7_oneIf (f_X5_isOpen B (B + 7) ω) ω))) C dX5_openValves_35 rfl ?_
  refine g_istore_n (lv' := [(1, .int ((((0 + (f_X7_oneIf (f_X5_isOpen B (B + 4) ω) ω)) + (f_X7_oneIf (f_X5_isOpen B (B + 5) ω) ω)) + (f_X7_oneIf (f_X5_isOpen B (B + 6) ω) ω)) + (f_X7_oneIf (f_X5_isOpen B (B + 7) ω) ω))), (5, .ref (ad (B + 7))), (4, .int 3), (3, .int 4), (2, .ref (ad (B + 3))), (0, .ref (ad B))]) C dX5_openValves_36 rfl (by decide) rfl ?_
  refine g_iinc (k := 2) (v := 4) (lv' := [(4, .int 4), (1, .int ((((0 + (f_X7_oneIf (f_X5_isOpen B (B + 4) ω) ω)) + (f_X7_oneIf (f_X5_isOpen B (B + 5) ω) ω)) + (f_X7_oneIf (f_X5_isOpen B (B + 6) ω) ω)) + (f_X7_oneIf (f_X5_isOpen B (B + 7) ω) ω))), (5, .ref (ad (B + 7))), (3, .int 4), (2, .ref (ad (B + 3))), (0, .ref (ad B))]) C dX5_openValves_37 rfl (by decide) (by decide) rfl ?_
  refine g_goto (tgt := 13) C dX5_openValves_40 (by decide) ?_
  refine g_iload C dX5_openValves_13 0 rfl ?_
  refine g_iload_n C dX5_openValves_15 rfl 3 rfl ?_
  refine g_icmp_ge (tgt := 43) C dX5_openValves_16 (by decide) (fun _ => ?_) (fun z => absurd z (by decide))
  refine g_iload_n C dX5_openValves_43 rfl 1 rfl ?_
  exact g_iret C hret hlk (e1.trans (congrArg (fun z => some (Value.int z)) rfl)) e2 dX5_openValves_44
abbrev rm_X5_lockedBurners : Room := { frames := 1, cells := 0, slots := 0, locals := 20 }
theorem md_X5_lockedBurners : yX5_lockedBurners.cls = RX5 ∧ yX5_lockedBurners.cls ≠ "java/lang/invoke/MethodHandle" ∧ yX5_lockedBurners.cls ≠ "java/lang/invoke/VarHandle" ∧ (parseMethodDescriptor yX5_lockedBurners.desc).map (fun d => d.parameters.length) = some 0 := by decide +kernel
def f_X5_lockedBurners (B : Nat) (ω : Mem) : Int32 := ((((0 + (f_X7_oneIf (bb (ω (B + 4) 6)) ω)) + (f_X7_oneIf (bb (ω (B + 5) 6)) ω)) + (f_X7_oneIf (bb (ω (B + 6) 6)) ω)) + (f_X7_oneIf (bb (ω (B + 7) 6)) ω))
set_option maxRecDepth 100000 in
set_option maxHeartbeats 4000000 in
theorem c_X5_lockedBurners {l_ : Launch} {sa : Nat → Nat} {D : va_G} {X : Nat → ClassId} {ad : Nat → Nat} (B : Nat) (hB : isS B) (ω : Mem)  : CT l_ yX5_lockedBurners wsX5_lockedBurners rm_X5_lockedBurners sa D (tyX X) 120 ad (mk X ad ω) [.ref (ad B)] (some (.int (f_X5_lockedBurners B ω)) : Option Value) (mk X ad ω) := by
  refine ct_of [(0, .ref (ad B))] (by decide +kernel) rfl rfl (Nat.le_of_ble_eq_true rfl) rfl ?_
  intro p_ e_ s_ m_ args_ below_ meth_ c_ C hret hlk hin
  have e1 : (some (.int (f_X5_lockedBurners B ω)) : Option Value) = (some (.int (f_X5_lockedBurners B ω)) : Option Value) := rfl
  have e2 : mk X ad ω = mk X ad ω := rfl
  have iX0 : ∀ w ∈ u_ws RX0 TX0 10, w ∈ wsX5_lockedBurners := by decide +kernel
  have iX5 : ∀ w ∈ u_ws RX5 TX5 8, w ∈ wsX5_lockedBurners := by decide +kernel
  have IX7 : Cond.initialized RX7 ∈ wsX5_lockedBurners := by decide +kernel
  have L134 : Cond.fieldLink RX5 134 (TX0 6).1 (TX0 6).2.1 (TX0 6).2.2.1 ∈ wsX5_lockedBurners := by decide +kernel
  have L22 : Cond.fieldLink RX5 22 (TX5 1).1 (TX5 1).2.1 (TX5 1).2.2.1 ∈ wsX5_lockedBurners := by decide +kernel
  have TX7_oneIf : Cond.static yX7_oneIf ∈ wsX5_lockedBurners := by decide +kernel
  refine g_iconst (v := 0) C dX5_lockedBurners_0 (by decide) ?_
  refine g_istore_n (lv' := [(1, .int 0), (0, .ref (ad B))]) C dX5_lockedBurners_1 rfl (by decide) rfl ?_
  refine g_aload_n C dX5_lockedBurners_2 rfl 1 rfl ?_
  refine g_get (v := .ref (ad (B + 3))) C iX5 (bS0 hB) (mk_1 (kS0 hB)) rfl 1 (by decide) L22 rfl dX5_lockedBurners_3 ?_
  refine g_astore_n (lv' := [(2, .ref (ad (B + 3))), (1, .int 0), (0, .ref (ad B))]) C dX5_lockedBurners_6 rfl (by decide) rfl ?_
  refine g_aload_n C dX5_lockedBurners_7 rfl 0 rfl ?_
  refine g_alen (v := 4) C 2 (bS3 hB) (mk_3 (kS3 hB)) rfl rfl dX5_lockedBurners_8 ?_
  refine g_istore_n (lv' := [(3, .int 4), (2, .ref (ad (B + 3))), (1, .int 0), (0, .ref (ad B))]) C dX5_lockedBurners_9 rfl (by decide) rfl ?_
  refine g_iconst (v := 0) C dX5_lockedBurners_10 (by decide) ?_
  refine g_istore (lv' := [(4, .int 0), (3, .int 4), (2, .ref (ad (B + 3))), (1, .int 0), (0, .ref (ad B))]) C dX5_lockedBurners_11 (by decide) rfl ?_
  refine g_iload C dX5_lockedBurners_13 0 rfl ?_
  refine g_iload_n C dX5_lockedBurners_15 rfl 1 rfl ?_
  refine g_icmp_ge (tgt := 42) C dX5_lockedBurners_16 (by decide) (fun z => absurd z (by decide)) (fun _ => ?_)
  refine g_aload_n C dX5_lockedBurners_19 rfl 2 rfl ?_
  refine g_iload C dX5_lockedBurners_20 0 rfl ?_
  refine g_aldq (k := 0) (v := .ref (ad (B + 4))) C 2 (bS3 hB) (mk_3 (kS3 hB)) rfl (by unfold vp_in; decide) rfl rfl dX5_lockedBurners_22 ?_
  refine g_astore (lv' := [(5, .ref (ad (B + 4))), (4, .int 0), (3, .int 4), (2, .ref (ad (B + 3))), (1, .int 0), (0, .ref (ad B))]) C dX5_lockedBurners_23 (by decide) rfl ?_
  refine g_iload_n C dX5_lockedBurners_25 rfl 4 rfl ?_
  refine g_aload C dX5_lockedBurners_26 0 rfl ?_
  refine g_get (v := .int (bb (ω (B + 4) 6))) C iX0 (bS4 hB) (mk_4 (kS4 hB)) rfl 6 (by decide) L134 rfl dX5_lockedBurners_28 ?_
  refine g_callSN (rest := [.int 0]) (st1 := [.int (f_X7_oneIf (bb (ω (B + 4) 6)) ω), .int 0]) C (c_X7_oneIf (bb (ω (B + 4) 6)) ω) (va_cnB 1 C.hts gX5_lockedBurners_X7_oneIf_n126 rfl rfl rfl (nw8 C.hN) (C.hts _ IX7) md_X7_oneIf.2 ⟨Nat.le_of_ble_eq_true rfl, Nat.le_of_ble_eq_true rfl⟩) TX7_oneIf rfl rfl rfl (Nat.le_of_ble_eq_true rfl) dX5_lockedBurners_31 (Nat.zero_le _) (Nat.zero_le _) ?_
  refine g_iadd (v := (0 + (f_X7_oneIf (bb (ω (B + 4) 6)) ω))) C dX5_lockedBurners_34 rfl ?_
  refine g_istore_n (lv' := [(1, .int (0 + (f_X7_oneIf (bb (ω (B + 4) 6)) ω))), (5, .ref (ad (B + 4))), (4, .int 0), (3, .int 4), (2, .ref (ad (B + 3))), (0, .ref (ad B))]) C dX5_lockedBurners_35 rfl (by decide) rfl ?_
  refine g_iinc (k := 2) (v := 1) (lv' := [(4, .int 1), (1, .int (0 + (f_X7_oneIf (bb (ω (B + 4) 6)) ω))), (5, .ref (ad (B + 4))), (3, .int 4), (2, .ref (ad (B + 3))), (0, .ref (ad B))]) C dX5_lockedBurners_36 rfl (by decide) (by decide) rfl ?_
  refine g_goto (tgt := 13) C dX5_lockedBurners_39 (by decide) ?_
  refine g_iload C dX5_lockedBurners_13 0 rfl ?_
  refine g_iload_n C dX5_lockedBurners_15 rfl 3 rfl ?_
  refine g_icmp_ge (tgt := 42) C dX5_lockedBurners_16 (by decide) (fun z => absurd z (by decide)) (fun _ => ?_)
  refine g_aload_n C dX5_lockedBurners_19 rfl 4 rfl ?_
  refine g_iload C dX5_lockedBurners_20 0 rfl ?_
  refine g_aldq (k := 1) (v := .ref (ad (B + 5))) C 2 (bS3 hB) (mk_3 (kS3 hB)) rfl (by unfold vp_in; decide) rfl rfl dX5_lockedBurners_22 ?_
  refine g_astore (lv' := [(5, .ref (ad (B + 5))), (4, .int 1), (1, .int (0 + (f_X7_oneIf (bb (ω (B + 4) 6)) ω))), (3, .int 4), (2, .ref (ad (B + 3))), (0, .ref (ad B))]) C dX5_lockedBurners_23 (by decide) rfl ?_
  refine g_iload_n C dX5_lockedBurners_25 rfl 2 rfl ?_
  refine g_aload C dX5_lockedBurners_26 0 rfl ?_
  refine g_get (v := .int (bb (ω (B + 5) 6))) C iX0 (bS5 hB) (mk_4 (kS5 hB)) rfl 6 (by decide) L134 rfl dX5_lockedBurners_28 ?_
  refine g_callSN (rest := [.int (0 + (f_X7_oneIf (bb (ω (B + 4) 6)) ω))]) (st1 := [.int (f_X7_oneIf (bb (ω (B + 5) 6)) ω), .int (0 + (f_X7_oneIf (bb (ω (B + 4) 6)) ω))]) C (c_X7_oneIf (bb (ω (B + 5) 6)) ω) (va_cnB 1 C.hts gX5_lockedBurners_X7_oneIf_n126 rfl rfl rfl (nw8 C.hN) (C.hts _ IX7) md_X7_oneIf.2 ⟨Nat.le_of_ble_eq_true rfl, Nat.le_of_ble_eq_true rfl⟩) TX7_oneIf rfl rfl rfl (Nat.le_of_ble_eq_true rfl) dX5_lockedBurners_31 (Nat.zero_le _) (Nat.zero_le _) ?_
  refine g_iadd (v := ((0 + (f_X7_oneIf (bb (ω (B + 4) 6)) ω)) + (f_X7_oneIf (bb (ω (B + 5) 6)) ω))) C dX5_lockedBurners_34 rfl ?_
  refine g_istore_n (lv' := [(1, .int ((0 + (f_X7_oneIf (bb (ω (B + 4) 6)) ω)) + (f_X7_oneIf (bb (ω (B + 5) 6)) ω))), (5, .ref (ad (B + 5))), (4, .int 1), (3, .int 4), (2, .ref (ad (B + 3))), (0, .ref (ad B))]) C dX5_lockedBurners_35 rfl (by decide) rfl ?_
  refine g_iinc (k := 2) (v := 2) (lv' := [(4, .int 2), (1, .int ((0 + (f_X7_oneIf (bb (ω (B + 4) 6)) ω)) + (f_X7_oneIf (bb (ω (B + 5) 6)) ω))), (5, .ref (ad (B + 5))), (3, .int 4), (2, .ref (ad (B + 3))), (0, .ref (ad B))]) C dX5_lockedBurners_36 rfl (by decide) (by decide) rfl ?_
  refine g_goto (tgt := 13) C dX5_lockedBurners_39 (by decide) ?_
  refine g_iload C dX5_lockedBurners_13 0 rfl ?_
  refine g_iload_n C dX5_lockedBurners_15 rfl 3 rfl ?_
  refine g_icmp_ge (tgt := 42) C dX5_lockedBurners_16 (by decide) (fun z => absurd z (by decide)) (fun _ => ?_)
  refine g_aload_n C dX5_lockedBurners_19 rfl 4 rfl ?_
  refine g_iload C dX5_lockedBurners_20 0 rfl ?_
  refine g_aldq (k := 2) (v := .ref (ad (B + 6))) C 2 (bS3 hB) (mk_3 (kS3 hB)) rfl (by unfold vp_in; decide) rfl rfl dX5_lockedBurners_22 ?_
  refine g_astore (lv' := [(5, .ref (ad (B + 6))), (4, .int 2), (1, .int ((0 + (f_X7_oneIf (bb (ω (B + 4) 6)) ω)) + (f_X7_oneIf (bb (ω (B + 5) 6)) ω))), (3, .int 4), (2, .ref (ad (B + 3))), (0, .ref (ad B))]) C dX5_lockedBurners_23 (by decide) rfl ?_
  refine g_iload_n C dX5_lockedBurners_25 rfl 2 rfl ?_
  refine g_aload C dX5_lockedBurners_26 0 rfl ?_
  refine g_get (v := .int (bb (ω (B + 6) 6))) C iX0 (bS6 hB) (mk_4 (kS6 hB)) rfl 6 (by decide) L134 rfl dX5_lockedBurners_28 ?_
  refine g_callSN (rest := [.int ((0 + (f_X7_oneIf (bb (ω (B + 4) 6)) ω)) + (f_X7_oneIf (bb (ω (B + 5) 6)) ω))]) (st1 := [.int (f_X7_oneIf (bb (ω (B + 6) 6)) ω), .int ((0 + (f_X7_oneIf (bb (ω (B + 4) 6)) ω)) + (f_X7_oneIf (bb (ω (B + 5) 6)) ω))]) C (c_X7_oneIf (bb (ω (B + 6) 6)) ω) (va_cnB 1 C.hts gX5_lockedBurners_X7_oneIf_n126 rfl rfl rfl (nw8 C.hN) (C.hts _ IX7) md_X7_oneIf.2 ⟨Nat.le_of_ble_eq_true rfl, Nat.le_of_ble_eq_true rfl⟩) TX7_oneIf rfl rfl rfl (Nat.le_of_ble_eq_true rfl) dX5_lockedBurners_31 (Nat.zero_le _) (Nat.zero_le _) ?_
  refine g_iadd (v := (((0 + (f_X7_oneIf (bb (ω (B + 4) 6)) ω)) + (f_X7_oneIf (bb (ω (B + 5) 6)) ω)) + (f_X7_oneIf (bb (ω (B + 6) 6)) ω))) C dX5_lockedBurners_34 rfl ?_
  refine g_istore_n (lv' := [(1, .int (((0 + (f_X7_oneIf (bb (ω (B + 4) 6)) ω)) + (f_X7_oneIf (bb (ω (B + 5) 6)) ω)) + (f_X7_oneIf (bb (ω (B + 6) 6)) ω))), (5, .ref (ad (B + 6))), (4, .int 2), (3, .int 4), (2, .ref (ad (B + 3))), (0, .ref (ad B))]) C dX5_lockedBurners_35 rfl (by decide) rfl ?_
  refine g_iinc (k := 2) (v := 3) (lv' := [(4, .int 3), (1, .int (((0 + (f_X7_oneIf (bb (ω (B + 4) 6)) ω)) + (f_X7_oneIf (bb (ω (B + 5) 6)) ω)) + (f_X7_oneIf (bb (ω (B + 6) 6)) ω))), (5, .ref (ad (B + 6))), (3, .int 4), (2, .ref (ad (B + 3))), (0, .ref (ad B))]) C dX5_lockedBurners_36 rfl (by decide) (by decide) rfl ?_
  refine g_goto (tgt := 13) C dX5_lockedBurners_39 (by decide) ?_
  refine g_iload C dX5_lockedBurners_13 0 rfl ?_
  refine g_iload_n C dX5_lockedBurners_15 rfl 3 rfl ?_
  refine g_icmp_ge (tgt := 42) C dX5_lockedBurners_16 (by decide) (fun z => absurd z (by decide)) (fun _ => ?_)
  refine g_aload_n C dX5_lockedBurners_19 rfl 4 rfl ?_
  refine g_iload C dX5_lockedBurners_20 0 rfl ?_
  refine g_aldq (k := 3) (v := .ref (ad (B + 7))) C 2 (bS3 hB) (mk_3 (kS3 hB)) rfl (by unfold vp_in; decide) rfl rfl dX5_lockedBurners_22 ?_
  refine g_astore (lv' := [(5, .ref (ad (B + 7))), (4, .int 3), (1, .int (((0 + (f_X7_oneIf (bb (ω (B + 4) 6)) ω)) + (f_X7_oneIf (bb (ω (B + 5) 6)) ω)) + (f_X7_oneIf (bb (ω (B + 6) 6)) ω))), (3, .int 4), (2, .ref (ad (B + 3))), (0, .ref (ad B))]) C dX5_lockedBurners_23 (by decide) rfl ?_
  refine g_iload_n C dX5_lockedBurners_25 rfl 2 rfl ?_
  refine g_aload C dX5_lockedBurners_26 0 rfl ?_
  refine g_get (v := .int (bb (ω (B + 7) 6))) C iX0 (bS7 hB) (mk_4 (kS7 hB)) rfl 6 (by decide) L134 rfl dX5_lockedBurners_28 ?_
  refine g_callSN (rest := [.int (((0 + (f_X7_oneIf (bb (ω (B + 4) 6)) ω)) + (f_X7_oneIf (bb (ω (B + 5) 6)) ω)) + (f_X7_oneIf (bb (ω (B + 6) 6)) ω))]) (st1 := [.int (f_X7_oneIf (bb (ω (B + 7) 6)) ω), .int (((0 + (f_X7_oneIf (bb (ω (B + 4) 6)) ω)) + (f_X7_oneIf (bb (ω (B + 5) 6)) ω)) + (f_X7_oneIf (bb (ω (B + 6) 6)) ω))]) C (c_X7_oneIf (bb (ω (B + 7) 6)) ω) (va_cnB 1 C.hts gX5_lockedBurners_X7_oneIf_n126 rfl rfl rfl (nw8 C.hN) (C.hts _ IX7) md_X7_oneIf.2 ⟨Nat.le_of_ble_eq_true rfl, Nat.le_of_ble_eq_true rfl⟩) TX7_oneIf rfl rfl rfl (Nat.le_of_ble_eq_true rfl) dX5_lockedBurners_31 (Nat.zero_le _) (Nat.zero_le _) ?_
  refine g_iadd (v := ((((0 + (f_X7_oneIf (bb (ω (B + 4) 6)) ω)) + (f_X7_oneIf (bb (ω (B + 5) 6)) ω)) + (f_X7_oneIf (bb (ω (B + 6) 6)) ω)) + (f_X7_oneIf (bb (ω (B + 7) 6)) ω))) C dX5_lockedBurners_34 rfl ?_
  refine g_istore_n (lv' := [(1, .int ((((0 + (f_X7_oneIf (bb (ω (B + 4) 6)) ω)) + (f_X7_oneIf (bb (ω (B + 5) 6)) ω)) + (f_X7_oneIf (bb (ω (B + 6) 6)) ω)) + (f_X7_oneIf (bb (ω (B + 7) 6)) ω))), (5, .ref (ad (B + 7))), (4, .int 3), (3, .int 4), (2, .ref (ad (B + 3))), (0, .ref (ad B))]) C dX5_lockedBurners_35 rfl (by decide) rfl ?_
  refine g_iinc (k := 2) (v := 4) (lv' := [(4, .int 4), (1, .int ((((0 + (f_X7_oneIf (bb (ω (B + 4) 6)) ω)) + (f_X7_oneIf (bb (ω (B + 5) 6)) ω)) + (f_X7_oneIf (bb (ω (B + 6) 6)) ω)) + (f_X7_oneIf (bb (ω (B + 7) 6)) ω))), (5, .ref (ad (B + 7))), (3, .int 4), (2, .ref (ad (B + 3))), (0, .ref (ad B))]) C dX5_lockedBurners_36 rfl (by decide) (by decide) rfl ?_
  refine g_goto (tgt := 13) C dX5_lockedBurners_39 (by decide) ?_
  refine g_iload C dX5_lockedBurners_13 0 rfl ?_
  refine g_iload_n C dX5_lockedBurners_15 rfl 3 rfl ?_
  refine g_icmp_ge (tgt := 42) C dX5_lockedBurners_16 (by decide) (fun _ => ?_) (fun z => absurd z (by decide))
  refine g_iload_n C dX5_lockedBurners_42 rfl 1 rfl ?_
  exact g_iret C hret hlk (e1.trans (congrArg (fun z => some (Value.int z)) rfl)) e2 dX5_lockedBurners_43
abbrev rm_X5_copyFrom : Room := { frames := 3, cells := 0, slots := 0, locals := 60 }
theorem md_X5_copyFrom : yX5_copyFrom.cls = RX5 ∧ yX5_copyFrom.cls ≠ "java/lang/invoke/MethodHandle" ∧ yX5_copyFrom.cls ≠ "java/lang/invoke/VarHandle" ∧ (parseMethodDescriptor yX5_copyFrom.desc).map (fun d => d.parameters.length) = some 1 := by decide +kernel
def f_X5_copyFrom_90 (B : Nat) (k : Nat) (ω : Mem) : Mem := (st (st ω B 6 (ω k 6)) B 7 ((st ω B 6 (ω k 6)) k 7))
set_option maxRecDepth 100000 in
set_option maxHeartbeats 4000000 in
theorem k_X5_copyFrom_90 {l_ : Launch} {p_ : Program} {e_ : Env} {s_ : State} {m_ : MethodId} {args_ : Array Value} {below_ : List Frame} {meth_ : Method} {c_ : Code} {sa : Nat → Nat} {D : va_G} {X : Nat → ClassId} {ad : Nat → Nat} {G0 : Nat → va_E} (B : Nat) (k : Nat) (hB : isS B) (hk : isS k) (C : GC p_ rm_X5_copyFrom s_ m_ args_ meth_ c_ cX5_copyFrom 3 wsX5_copyFrom RX5 sa D (tyX X) (va_A (gw 120 ad G0) s_.heap.size)) (hret : meth_.sig.returnType = none) (hlk : meth_.locks = false) : ∀  (ω : Mem)  (rv : Option Value) (G2 : Nat → va_E) (e1 : rv = none) (e2 : G2 = mk X ad (f_X5_copyFrom_90 B k ω)), GV p_ l_ e_ rm_X5_copyFrom s_ m_ args_ below_ meth_ c_ 0 0 (CQ below_ args_ s_ D 120 ad G0 rv G2) D (va_A (gw 120 ad G0) s_.heap.size) 3 120 ad (mk X ad ω) [(0, .ref (ad B)), (1, .ref (ad k)), (2, .int 4)] 90 [] := by
  have iX5 : ∀ w ∈ u_ws RX5 TX5 8, w ∈ wsX5_copyFrom := by decide +kernel
  have L63 : Cond.fieldLink RX5 63 (TX5 6).1 (TX5 6).2.1 (TX5 6).2.2.1 ∈ wsX5_copyFrom := by decide +kernel
  have L66 : Cond.fieldLink RX5 66 (TX5 7).1 (TX5 7).2.1 (TX5 7).2.2.1 ∈ wsX5_copyFrom := by decide +kernel
  intro ω rv G2 e1 e2
  refine g_aload_n C dX5_copyFrom_90 rfl 0 rfl ?_
  refine g_aload_n C dX5_copyFrom_91 rfl 1 rfl ?_
  refine g_get (v := .int (ω k 6)) C iX5 (bS0 hk) (mk_1 (kS0 hk)) rfl 6 (by decide) L63 rfl dX5_copyFrom_92 ?_
  refine g_put C iX5 tyX5 tyX5_ok nmX5 (bS0 hB) (mk_1 (kS0 hB)) rfl 6 (by decide) L63 rfl rfl rfl (Nat.le_of_ble_eq_true rfl) dX5_copyFrom_95 ?_
  refine gv_eqG (mkp_1_6 (kS0 hB)) ?_
  refine g_aload_n C dX5_copyFrom_98 rfl 0 rfl ?_
  refine g_aload_n C dX5_copyFrom_99 rfl 1 rfl ?_
  refine g_get (v := .int ((st ω B 6 (ω k 6)) k 7)) C iX5 (bS0 hk) (mk_1 (kS0 hk)) rfl 7 (by decide) L66 rfl dX5_copyFrom_100 ?_
  refine g_put C iX5 tyX5 tyX5_ok nmX5 (bS0 hB) (mk_1 (kS0 hB)) rfl 7 (by decide) L66 rfl rfl rfl (Nat.le_of_ble_eq_true rfl) dX5_copyFrom_103 ?_
  refine gv_eqG (mkp_1_7 (kS0 hB)) ?_
  exact g_vret C hret hlk e1 (e2.trans (congrArg (mk X ad) rfl)) dX5_copyFrom_106
def f_X5_copyFrom_74 (B : Nat) (k : Nat) (ω : Mem) : Mem := (f_X5_copyFrom_90 B k (st (st ω B 4 (ω k 4)) B 5 ((st ω B 4 (ω k 4)) k 5)))
set_option maxRecDepth 100000 in
set_option maxHeartbeats 4000000 in
theorem k_X5_copyFrom_74 {l_ : Launch} {p_ : Program} {e_ : Env} {s_ : State} {m_ : MethodId} {args_ : Array Value} {below_ : List Frame} {meth_ : Method} {c_ : Code} {sa : Nat → Nat} {D : va_G} {X : Nat → ClassId} {ad : Nat → Nat} {G0 : Nat → va_E} (B : Nat) (k : Nat) (hB : isS B) (hk : isS k) (C : GC p_ rm_X5_copyFrom s_ m_ args_ meth_ c_ cX5_copyFrom 3 wsX5_copyFrom RX5 sa D (tyX X) (va_A (gw 120 ad G0) s_.heap.size)) (hret : meth_.sig.returnType = none) (hlk : meth_.locks = false) : ∀  (ω : Mem)  (rv : Option Value) (G2 : Nat → va_E) (e1 : rv = none) (e2 : G2 = mk X ad (f_X5_copyFrom_74 B k ω)), GV p_ l_ e_ rm_X5_copyFrom s_ m_ args_ below_ meth_ c_ 0 0 (CQ below_ args_ s_ D 120 ad G0 rv G2) D (va_A (gw 120 ad G0) s_.heap.size) 3 120 ad (mk X ad ω) [(0, .ref (ad B)), (1, .ref (ad k)), (2, .int 4)] 74 [] := by
  have iX5 : ∀ w ∈ u_ws RX5 TX5 8, w ∈ wsX5_copyFrom := by decide +kernel
  have L56 : Cond.fieldLink RX5 56 (TX5 4).1 (TX5 4).2.1 (TX5 4).2.2.1 ∈ wsX5_copyFrom := by decide +kernel
  have L60 : Cond.fieldLink RX5 60 (TX5 5).1 (TX5 5).2.1 (TX5 5).2.2.1 ∈ wsX5_copyFrom := by decide +kernel
  intro ω rv G2 e1 e2
  refine g_aload_n C dX5_copyFrom_74 rfl 0 rfl ?_
  refine g_aload_n C dX5_copyFrom_75 rfl 1 rfl ?_
  refine g_get (v := .int (ω k 4)) C iX5 (bS0 hk) (mk_1 (kS0 hk)) rfl 4 (by decide) L56 rfl dX5_copyFrom_76 ?_
  refine g_put C iX5 tyX5 tyX5_ok nmX5 (bS0 hB) (mk_1 (kS0 hB)) rfl 4 (by decide) L56 rfl rfl rfl (Nat.le_of_ble_eq_true rfl) dX5_copyFrom_79 ?_
  refine gv_eqG (mkp_1_4 (kS0 hB)) ?_
  refine g_aload_n C dX5_copyFrom_82 rfl 0 rfl ?_
  refine g_aload_n C dX5_copyFrom_83 rfl 1 rfl ?_
  refine g_get (v := .int ((st ω B 4 (ω k 4)) k 5)) C iX5 (bS0 hk) (mk_1 (kS0 hk)) rfl 5 (by decide) L60 rfl dX5_copyFrom_84 ?_
  refine g_put C iX5 tyX5 tyX5_ok nmX5 (bS0 hB) (mk_1 (kS0 hB)) rfl 5 (by decide) L60 rfl rfl rfl (Nat.le_of_ble_eq_true rfl) dX5_copyFrom_87 ?_
  refine gv_eqG (mkp_1_5 (kS0 hB)) ?_
  exact k_X5_copyFrom_90 B k hB hk C hret hlk  (st (st ω B 4 (ω k 4)) B 5 ((st ω B 4 (ω k 4)) k 5))  _ _ e1 (e2.trans (congrArg (mk X ad) rfl))
def f_X5_copyFrom (B : Nat) (k : Nat) (ω : Mem) : Mem := (f_X5_copyFrom_74 B k (f_X2_copyFrom (B + 11) (k + 11) (f_X3_copyFrom (B + 8) (k + 8) (f_X0_copyFrom (B + 7) (k + 7) (f_X0_copyFrom (B + 6) (k + 6) (f_X0_copyFrom (B + 5) (k + 5) (f_X0_copyFrom (B + 4) (k + 4) (f_X4_copyFrom (B + 1) (k + 1) ω))))))))
set_option maxRecDepth 100000 in
set_option maxHeartbeats 4000000 in
theorem c_X5_copyFrom {l_ : Launch} {sa : Nat → Nat} {D : va_G} {X : Nat → ClassId} {ad : Nat → Nat} (B : Nat) (k : Nat) (hB : isS B) (hk : isS k) (ω : Mem)  : CT l_ yX5_copyFrom wsX5_copyFrom rm_X5_copyFrom sa D (tyX X) 120 ad (mk X ad ω) [.ref (ad B), .ref (ad k)] (none : Option Value) (mk X ad (f_X5_copyFrom B k ω)) := by
  refine ct_of [(0, .ref (ad B)), (1, .ref (ad k))] (by decide +kernel) rfl rfl (Nat.le_of_ble_eq_true rfl) rfl ?_
  intro p_ e_ s_ m_ args_ below_ meth_ c_ C hret hlk hin
  have e1 : (none : Option Value) = (none : Option Value) := rfl
  have e2 : mk X ad (f_X5_copyFrom B k ω) = mk X ad (f_X5_copyFrom B k ω) := rfl
  have iX5 : ∀ w ∈ u_ws RX5 TX5 8, w ∈ wsX5_copyFrom := by decide +kernel
  have L10 : Cond.fieldLink RX5 10 (TX5 0).1 (TX5 0).2.1 (TX5 0).2.2.1 ∈ wsX5_copyFrom := by decide +kernel
  have L22 : Cond.fieldLink RX5 22 (TX5 1).1 (TX5 1).2.1 (TX5 1).2.2.1 ∈ wsX5_copyFrom := by decide +kernel
  have L32 : Cond.fieldLink RX5 32 (TX5 2).1 (TX5 2).2.1 (TX5 2).2.2.1 ∈ wsX5_copyFrom := by decide +kernel
  have L39 : Cond.fieldLink RX5 39 (TX5 3).1 (TX5 3).2.1 (TX5 3).2.2.1 ∈ wsX5_copyFrom := by decide +kernel
  refine g_aload_n C dX5_copyFrom_0 rfl 0 rfl ?_
  refine g_get (v := .ref (ad (B + 1))) C iX5 (bS0 hB) (mk_1 (kS0 hB)) rfl 0 (by decide) L10 rfl dX5_copyFrom_1 ?_
  refine g_aload_n C dX5_copyFrom_4 rfl 1 rfl ?_
  refine g_get (v := .ref (ad (k + 1))) C iX5 (bS0 hk) (mk_1 (kS0 hk)) rfl 0 (by decide) L10 rfl dX5_copyFrom_5 ?_
  refine g_callV (rest := []) (st1 := []) C (c_X4_copyFrom (B + 1) (k + 1) (hB).set (hk).set ω) (cwV 1 C.hts gX5_copyFrom_X4_copyFrom rfl rfl rfl md_X4_copyFrom ⟨Nat.le_of_ble_eq_true rfl, Nat.le_of_ble_eq_true rfl⟩) (bS1 hB) (mk_2 (kS1 hB)) rfl rfl rfl rfl rfl (Nat.le_of_ble_eq_true rfl) dX5_copyFrom_8 (Nat.zero_le _) (Nat.zero_le _) ?_
  refine g_iconst (v := 0) C dX5_copyFrom_11 (by decide) ?_
  refine g_istore_n (lv' := [(2, .int 0), (0, .ref (ad B)), (1, .ref (ad k))]) C dX5_copyFrom_12 rfl (by decide) rfl ?_
  refine g_iload_n C dX5_copyFrom_13 rfl 0 rfl ?_
  refine g_aload_n C dX5_copyFrom_14 rfl 1 rfl ?_
  refine g_get (v := .ref (ad (B + 3))) C iX5 (bS0 hB) (mk_1 (kS0 hB)) rfl 1 (by decide) L22 rfl dX5_copyFrom_15 ?_
  refine g_alen (v := 4) C 2 (bS3 hB) (mk_3 (kS3 hB)) rfl rfl dX5_copyFrom_18 ?_
  refine g_icmp_ge (tgt := 52) C dX5_copyFrom_19 (by decide) (fun z => absurd z (by decide)) (fun _ => ?_)
  refine g_iload_n C dX5_copyFrom_22 rfl 0 rfl ?_
  refine g_aload_n C dX5_copyFrom_23 rfl 2 rfl ?_
  refine g_get (v := .ref (ad (k + 3))) C iX5 (bS0 hk) (mk_1 (kS0 hk)) rfl 1 (by decide) L22 rfl dX5_copyFrom_24 ?_
  refine g_alen (v := 4) C 2 (bS3 hk) (mk_3 (kS3 hk)) rfl rfl dX5_copyFrom_27 ?_
  refine g_icmp_ge (tgt := 52) C dX5_copyFrom_28 (by decide) (fun z => absurd z (by decide)) (fun _ => ?_)
  refine g_aload_n C dX5_copyFrom_31 rfl 1 rfl ?_
  refine g_get (v := .ref (ad (B + 3))) C iX5 (bS0 hB) (mk_1 (kS0 hB)) rfl 1 (by decide) L22 rfl dX5_copyFrom_32 ?_
  refine g_iload_n C dX5_copyFrom_35 rfl 0 rfl ?_
  refine g_aldq (k := 0) (v := .ref (ad (B + 4))) C 2 (bS3 hB) (mk_3 (kS3 hB)) rfl (by unfold vp_in; decide) rfl rfl dX5_copyFrom_36 ?_
  refine g_aload_n C dX5_copyFrom_37 rfl 2 rfl ?_
  refine g_get (v := .ref (ad (k + 3))) C iX5 (bS0 hk) (mk_1 (kS0 hk)) rfl 1 (by decide) L22 rfl dX5_copyFrom_38 ?_
  refine g_iload_n C dX5_copyFrom_41 rfl 0 rfl ?_
  refine g_aldq (k := 0) (v := .ref (ad (k + 4))) C 2 (bS3 hk) (mk_3 (kS3 hk)) rfl (by unfold vp_in; decide) rfl rfl dX5_copyFrom_42 ?_
  refine g_callV (rest := []) (st1 := []) C (c_X0_copyFrom (B + 4) (k + 4) (hB).b0 (hk).b0 (f_X4_copyFrom (B + 1) (k + 1) ω)) (cwV 1 C.hts gX5_copyFrom_X0_copyFrom rfl rfl rfl md_X0_copyFrom ⟨Nat.le_of_ble_eq_true rfl, Nat.le_of_ble_eq_true rfl⟩) (bS4 hB) (mk_4 (kS4 hB)) rfl rfl rfl rfl rfl (Nat.le_of_ble_eq_true rfl) dX5_copyFrom_43 (Nat.zero_le _) (Nat.zero_le _) ?_
  refine g_iinc (k := 0) (v := 1) (lv' := [(2, .int 1), (0, .ref (ad B)), (1, .ref (ad k))]) C dX5_copyFrom_46 rfl (by decide) (by decide) rfl ?_
  refine g_goto (tgt := 13) C dX5_copyFrom_49 (by decide) ?_
  refine g_iload_n C dX5_copyFrom_13 rfl 0 rfl ?_
  refine g_aload_n C dX5_copyFrom_14 rfl 1 rfl ?_
  refine g_get (v := .ref (ad (B + 3))) C iX5 (bS0 hB) (mk_1 (kS0 hB)) rfl 1 (by decide) L22 rfl dX5_copyFrom_15 ?_
  refine g_alen (v := 4) C 2 (bS3 hB) (mk_3 (kS3 hB)) rfl rfl dX5_copyFrom_18 ?_
  refine g_icmp_ge (tgt := 52) C dX5_copyFrom_19 (by decide) (fun z => absurd z (by decide)) (fun _ => ?_)
  refine g_iload_n C dX5_copyFrom_22 rfl 0 rfl ?_
  refine g_aload_n C dX5_copyFrom_23 rfl 2 rfl ?_
  refine g_get (v := .ref (ad (k + 3))) C iX5 (bS0 hk) (mk_1 (kS0 hk)) rfl 1 (by decide) L22 rfl dX5_copyFrom_24 ?_
  refine g_alen (v := 4) C 2 (bS3 hk) (mk_3 (kS3 hk)) rfl rfl dX5_copyFrom_27 ?_
  refine g_icmp_ge (tgt := 52) C dX5_copyFrom_28 (by decide) (fun z => absurd z (by decide)) (fun _ => ?_)
  refine g_aload_n C dX5_copyFrom_31 rfl 1 rfl ?_
  refine g_get (v := .ref (ad (B + 3))) C iX5 (bS0 hB) (mk_1 (kS0 hB)) rfl 1 (by decide) L22 rfl dX5_copyFrom_32 ?_
  refine g_iload_n C dX5_copyFrom_35 rfl 0 rfl ?_
  refine g_aldq (k := 1) (v := .ref (ad (B + 5))) C 2 (bS3 hB) (mk_3 (kS3 hB)) rfl (by unfold vp_in; decide) rfl rfl dX5_copyFrom_36 ?_
  refine g_aload_n C dX5_copyFrom_37 rfl 2 rfl ?_
  refine g_get (v := .ref (ad (k + 3))) C iX5 (bS0 hk) (mk_1 (kS0 hk)) rfl 1 (by decide) L22 rfl dX5_copyFrom_38 ?_
  refine g_iload_n C dX5_copyFrom_41 rfl 0 rfl ?_
  refine g_aldq (k := 1) (v := .ref (ad (k + 5))) C 2 (bS3 hk) (mk_3 (kS3 hk)) rfl (by unfold vp_in; decide) rfl rfl dX5_copyFrom_42 ?_
  refine g_callV (rest := []) (st1 := []) C (c_X0_copyFrom (B + 5) (k + 5) (hB).b1 (hk).b1 (f_X0_copyFrom (B + 4) (k + 4) (f_X4_copyFrom (B + 1) (k + 1) ω))) (cwV 1 C.hts gX5_copyFrom_X0_copyFrom rfl rfl rfl md_X0_copyFrom ⟨Nat.le_of_ble_eq_true rfl, Nat.le_of_ble_eq_true rfl⟩) (bS5 hB) (mk_4 (kS5 hB)) rfl rfl rfl rfl rfl (Nat.le_of_ble_eq_true rfl) dX5_copyFrom_43 (Nat.zero_le _) (Nat.zero_le _) ?_
  refine g_iinc (k := 0) (v := 2) (lv' := [(2, .int 2), (0, .ref (ad B)), (1, .ref (ad k))]) C dX5_copyFrom_46 rfl (by decide) (by decide) rfl ?_
  refine g_goto (tgt := 13) C dX5_copyFrom_49 (by decide) ?_
  refine g_iload_n C dX5_copyFrom_13 rfl 0 rfl ?_
  refine g_aload_n C dX5_copyFrom_14 rfl 1 rfl ?_
  refine g_get (v := .ref (ad (B + 3))) C iX5 (bS0 hB) (mk_1 (kS0 hB)) rfl 1 (by decide) L22 rfl dX5_copyFrom_15 ?_
  refine g_alen (v := 4) C 2 (bS3 hB) (mk_3 (kS3 hB)) rfl rfl dX5_copyFrom_18 ?_
  refine g_icmp_ge (tgt := 52) C dX5_copyFrom_19 (by decide) (fun z => absurd z (by decide)) (fun _ => ?_)
  refine g_iload_n C dX5_copyFrom_22 rfl 0 rfl ?_
  refine g_aload_n C dX5_copyFrom_23 rfl 2 rfl ?_
  refine g_get (v := .ref (ad (k + 3))) C iX5 (bS0 hk) (mk_1 (kS0 hk)) rfl 1 (by decide) L22 rfl dX5_copyFrom_24 ?_
  refine g_alen (v := 4) C 2 (bS3 hk) (mk_3 (kS3 hk)) rfl rfl dX5_copyFrom_27 ?_
  refine g_icmp_ge (tgt := 52) C dX5_copyFrom_28 (by decide) (fun z => absurd z (by decide)) (fun _ => ?_)
  refine g_aload_n C dX5_copyFrom_31 rfl 1 rfl ?_
  refine g_get (v := .ref (ad (B + 3))) C iX5 (bS0 hB) (mk_1 (kS0 hB)) rfl 1 (by decide) L22 rfl dX5_copyFrom_32 ?_
  refine g_iload_n C dX5_copyFrom_35 rfl 0 rfl ?_
  refine g_aldq (k := 2) (v := .ref (ad (B + 6))) C 2 (bS3 hB) (mk_3 (kS3 hB)) rfl (by unfold vp_in; decide) rfl rfl dX5_copyFrom_36 ?_
  refine g_aload_n C dX5_copyFrom_37 rfl 2 rfl ?_
  refine g_get (v := .ref (ad (k + 3))) C iX5 (bS0 hk) (mk_1 (kS0 hk)) rfl 1 (by decide) L22 rfl dX5_copyFrom_38 ?_
  refine g_iload_n C dX5_copyFrom_41 rfl 0 rfl ?_
  refine g_aldq (k := 2) (v := .ref (ad (k + 6))) C 2 (bS3 hk) (mk_3 (kS3 hk)) rfl (by unfold vp_in; decide) rfl rfl dX5_copyFrom_42 ?_
  refine g_callV (rest := []) (st1 := []) C (c_X0_copyFrom (B + 6) (k + 6) (hB).b2 (hk).b2 (f_X0_copyFrom (B + 5) (k + 5) (f_X0_copyFrom (B + 4) (k + 4) (f_X4_copyFrom (B + 1) (k + 1) ω)))) (cwV 1 C.hts gX5_copyFrom_X0_copyFrom rfl rfl rfl md_X0_copyFrom ⟨Nat.le_of_ble_eq_true rfl, Nat.le_of_ble_eq_true rfl⟩) (bS6 hB) (mk_4 (kS6 hB)) rfl rfl rfl rfl rfl (Nat.le_of_ble_eq_true rfl) dX5_copyFrom_43 (Nat.zero_le _) (Nat.zero_le _) ?_
  refine g_iinc (k := 0) (v := 3) (lv' := [(2, .int 3), (0, .ref (ad B)), (1, .ref (ad k))]) C dX5_copyFrom_46 rfl (by decide) (by decide) rfl ?_
  refine g_goto (tgt := 13) C dX5_copyFrom_49 (by decide) ?_
  refine g_iload_n C dX5_copyFrom_13 rfl 0 rfl ?_
  refine g_aload_n C dX5_copyFrom_14 rfl 1 rfl ?_
  refine g_get (v := .ref (ad (B + 3))) C iX5 (bS0 hB) (mk_1 (kS0 hB)) rfl 1 (by decide) L22 rfl dX5_copyFrom_15 ?_
  refine g_alen (v := 4) C 2 (bS3 hB) (mk_3 (kS3 hB)) rfl rfl dX5_copyFrom_18 ?_
  refine g_icmp_ge (tgt := 52) C dX5_copyFrom_19 (by decide) (fun z => absurd z (by decide)) (fun _ => ?_)
  refine g_iload_n C dX5_copyFrom_22 rfl 0 rfl ?_
  refine g_aload_n C dX5_copyFrom_23 rfl 2 rfl ?_
  refine g_get (v := .ref (ad (k + 3))) C iX5 (bS0 hk) (mk_1 (kS0 hk)) rfl 1 (by decide) L22 rfl dX5_copyFrom_24 ?_
  refine g_alen (v := 4) C 2 (bS3 hk) (mk_3 (kS3 hk)) rfl rfl dX5_copyFrom_27 ?_
  refine g_icmp_ge (tgt := 52) C dX5_copyFrom_28 (by decide) (fun z => absurd z (by decide)) (fun _ => ?_)
  refine g_aload_n C dX5_copyFrom_31 rfl 1 rfl ?_
  refine g_get (v := .ref (ad (B + 3))) C iX5 (bS0 hB) (mk_1 (kS0 hB)) rfl 1 (by decide) L22 rfl dX5_copyFrom_32 ?_
  refine g_iload_n C dX5_copyFrom_35 rfl 0 rfl ?_
  refine g_aldq (k := 3) (v := .ref (ad (B + 7))) C 2 (bS3 hB) (mk_3 (kS3 hB)) rfl (by unfold vp_in; decide) rfl rfl dX5_copyFrom_36 ?_
  refine g_aload_n C dX5_copyFrom_37 rfl 2 rfl ?_
  refine g_get (v := .ref (ad (k + 3))) C iX5 (bS0 hk) (mk_1 (kS0 hk)) rfl 1 (by decide) L22 rfl dX5_copyFrom_38 ?_
  refine g_iload_n C dX5_copyFrom_41 rfl 0 rfl ?_
  refine g_aldq (k := 3) (v := .ref (ad (k + 7))) C 2 (bS3 hk) (mk_3 (kS3 hk)) rfl (by unfold vp_in; decide) rfl rfl dX5_copyFrom_42 ?_
  refine g_callV (rest := []) (st1 := []) C (c_X0_copyFrom (B + 7) (k + 7) (hB).b3 (hk).b3 (f_X0_copyFrom (B + 6) (k + 6) (f_X0_copyFrom (B + 5) (k + 5) (f_X0_copyFrom (B + 4) (k + 4) (f_X4_copyFrom (B + 1) (k + 1) ω))))) (cwV 1 C.hts gX5_copyFrom_X0_copyFrom rfl rfl rfl md_X0_copyFrom ⟨Nat.le_of_ble_eq_true rfl, Nat.le_of_ble_eq_true rfl⟩) (bS7 hB) (mk_4 (kS7 hB)) rfl rfl rfl rfl rfl (Nat.le_of_ble_eq_true rfl) dX5_copyFrom_43 (Nat.zero_le _) (Nat.zero_le _) ?_
  refine g_iinc (k := 0) (v := 4) (lv' := [(2, .int 4), (0, .ref (ad B)), (1, .ref (ad k))]) C dX5_copyFrom_46 rfl (by decide) (by decide) rfl ?_
  refine g_goto (tgt := 13) C dX5_copyFrom_49 (by decide) ?_
  refine g_iload_n C dX5_copyFrom_13 rfl 0 rfl ?_
  refine g_aload_n C dX5_copyFrom_14 rfl 1 rfl ?_
  refine g_get (v := .ref (ad (B + 3))) C iX5 (bS0 hB) (mk_1 (kS0 hB)) rfl 1 (by decide) L22 rfl dX5_copyFrom_15 ?_
  refine g_alen (v := 4) C 2 (bS3 hB) (mk_3 (kS3 hB)) rfl rfl dX5_copyFrom_18 ?_
  refine g_icmp_ge (tgt := 52) C dX5_copyFrom_19 (by decide) (fun _ => ?_) (fun z => absurd z (by decide))
  refine g_aload_n C dX5_copyFrom_52 rfl 1 rfl ?_
  refine g_get (v := .ref (ad (B + 8))) C iX5 (bS0 hB) (mk_1 (kS0 hB)) rfl 2 (by decide) L32 rfl dX5_copyFrom_53 ?_
  refine g_aload_n C dX5_copyFrom_56 rfl 2 rfl ?_
  refine g_get (v := .ref (ad (k + 8))) C iX5 (bS0 hk) (mk_1 (kS0 hk)) rfl 2 (by decide) L32 rfl dX5_copyFrom_57 ?_
  refine g_callV (rest := []) (st1 := []) C (c_X3_copyFrom (B + 8) (k + 8) (hB).pl (hk).pl (f_X0_copyFrom (B + 7) (k + 7) (f_X0_copyFrom (B + 6) (k + 6) (f_X0_copyFrom (B + 5) (k + 5) (f_X0_copyFrom (B + 4) (k + 4) (f_X4_copyFrom (B + 1) (k + 1) ω)))))) (cwV 1 C.hts gX5_copyFrom_X3_copyFrom rfl rfl rfl md_X3_copyFrom ⟨Nat.le_of_ble_eq_true rfl, Nat.le_of_ble_eq_true rfl⟩) (bS8 hB) (mk_5 (kS8 hB)) rfl rfl rfl rfl rfl (Nat.le_of_ble_eq_true rfl) dX5_copyFrom_60 (Nat.zero_le _) (Nat.zero_le _) ?_
  refine g_aload_n C dX5_copyFrom_63 rfl 1 rfl ?_
  refine g_get (v := .ref (ad (B + 11))) C iX5 (bS0 hB) (mk_1 (kS0 hB)) rfl 3 (by decide) L39 rfl dX5_copyFrom_64 ?_
  refine g_aload_n C dX5_copyFrom_67 rfl 2 rfl ?_
  refine g_get (v := .ref (ad (k + 11))) C iX5 (bS0 hk) (mk_1 (kS0 hk)) rfl 3 (by decide) L39 rfl dX5_copyFrom_68 ?_
  refine g_callV (rest := []) (st1 := []) C (c_X2_copyFrom (B + 11) (k + 11) (hB).lg (hk).lg (f_X3_copyFrom (B + 8) (k + 8) (f_X0_copyFrom (B + 7) (k + 7) (f_X0_copyFrom (B + 6) (k + 6) (f_X0_copyFrom (B + 5) (k + 5) (f_X0_copyFrom (B + 4) (k + 4) (f_X4_copyFrom (B + 1) (k + 1) ω))))))) (cwV 1 C.hts gX5_copyFrom_X2_copyFrom rfl rfl rfl md_X2_copyFrom ⟨Nat.le_of_ble_eq_true rfl, Nat.le_of_ble_eq_true rfl⟩) (bS11 hB) (mk_6 (kS11 hB)) rfl rfl rfl rfl rfl (Nat.le_of_ble_eq_true rfl) dX5_copyFrom_71 (Nat.zero_le _) (Nat.zero_le _) ?_
  refine gv_lv (lv' := [(0, .ref (ad B)), (1, .ref (ad k)), (2, .int 4)]) [1, 2, 0] rfl ?_
  exact k_X5_copyFrom_74 B k hB hk C hret hlk  (f_X2_copyFrom (B + 11) (k + 11) (f_X3_copyFrom (B + 8) (k + 8) (f_X0_copyFrom (B + 7) (k + 7) (f_X0_copyFrom (B + 6) (k + 6) (f_X0_copyFrom (B + 5) (k + 5) (f_X0_copyFrom (B + 4) (k + 4) (f_X4_copyFrom (B + 1) (k + 1) ω)))))))  _ _ e1 (e2.trans (congrArg (mk X ad) rfl))
