abbrev rm_X8_sign : Room := { frames := 0, cells := 0, slots := 0, locals := 0 }
theorem md_X8_sign : yX8_sign.cls = RX8 ∧ yX8_sign.cls ≠ "java/lang/invoke/MethodHandle" ∧ yX8_sign.cls ≠ "java/lang/invoke/VarHandle" ∧ (parseMethodDescriptor yX8_sign.desc).map (fun d => d.parameters.length) = some 0 := by decide +kernel
def f_X8_sign  (ω : Mem) : Int32 := (if (ω 120 8).toNatClampNeg ≤ (ω 120 12).toNatClampNeg then 0 else (ω 125 ((ω 120 12).toNatClampNeg)))
set_option maxRecDepth 100000 in
set_option maxHeartbeats 4000000 in
theorem c_X8_sign {l_ : Launch} {sa : Nat → Nat} {D : va_G} {X : Nat → ClassId} {ad : Nat → Nat}  (ω : Mem) (hti : TI ω) : CT l_ yX8_sign wsX8_sign rm_X8_sign sa D (tyX X) 128 ad (mk X ad ω) [.ref (ad 120)] (some (.int (f_X8_sign ω)) : Option Value) (mk X ad ω) := by
  refine ct_of [(0, .ref (ad 120))] (by decide +kernel) rfl rfl (Nat.le_of_ble_eq_true rfl) rfl ?_
  intro p_ e_ s_ m_ args_ below_ meth_ c_ C hret hlk hin
  have e1 : (some (.int (f_X8_sign ω)) : Option Value) = (some (.int (f_X8_sign ω)) : Option Value) := rfl
  have e2 : mk X ad ω = mk X ad ω := rfl
  have iX8 : ∀ w ∈ u_ws RX8 TX8 14, w ∈ wsX8_sign := by decide +kernel
  have L110 : Cond.fieldLink RX8 110 (TX8 12).1 (TX8 12).2.1 (TX8 12).2.2.1 ∈ wsX8_sign := by decide +kernel
  have L113 : Cond.fieldLink RX8 113 (TX8 8).1 (TX8 8).2.1 (TX8 8).2.2.1 ∈ wsX8_sign := by decide +kernel
  have L22 : Cond.fieldLink RX8 22 (TX8 7).1 (TX8 7).2.1 (TX8 7).2.2.1 ∈ wsX8_sign := by decide +kernel
  refine g_aload_n C dX8_sign_0 rfl 0 rfl ?_
  refine g_get (v := .int (ω 120 12)) C iX8 (by decide) (mk_11 (by decide)) rfl 12 (by decide) L110 rfl dX8_sign_1 ?_
  refine g_aload_n C dX8_sign_4 rfl 0 rfl ?_
  refine g_get (v := .int (ω 120 8)) C iX8 (by decide) (mk_11 (by decide)) rfl 8 (by decide) L113 rfl dX8_sign_5 ?_
  have hz1 : (ω 120 8).toNatClampNeg ≤ _ := (hti.2.1).2
  refine gv_eqS (st' := [.int (nI ((ω 120 8).toNatClampNeg)), .int (ω 120 12)]) (congrArg (fun z : Int32 => ([Value.int z, .int (ω 120 12)] : List Value)) (hti.2.1).1) ?_
  have hz2 : (ω 120 12).toNatClampNeg ≤ _ := (hti.1).2
  refine gv_eqS (st' := [.int (nI ((ω 120 8).toNatClampNeg)), .int (nI ((ω 120 12).toNatClampNeg))]) (congrArg (fun z : Int32 => ([.int (nI ((ω 120 8).toNatClampNeg)), Value.int z] : List Value)) (hti.1).1) ?_
  refine g_icmp_ge (tgt := 23) C dX8_sign_8 (by decide) (fun h3 => ?_) (fun h3 => ?_)
  · have h3n := (nI_leI (a := (ω 120 8).toNatClampNeg) (b := (ω 120 12).toNatClampNeg) (by omega) (by omega)).mp h3
    refine g_iconst (v := 0) C dX8_sign_23 (by decide) ?_
    exact g_iret C hret hlk (e1.trans (congrArg (fun z => some (Value.int z)) ((if_pos h3n).trans rfl))) e2 dX8_sign_24
  · have h3n := (not_congr (nI_leI (a := (ω 120 8).toNatClampNeg) (b := (ω 120 12).toNatClampNeg) (by omega) (by omega))).mp h3
    refine g_aload_n C dX8_sign_11 rfl 0 rfl ?_
    refine g_get (v := .ref (ad 125)) C iX8 (by decide) (mk_11 (by decide)) rfl 7 (by decide) L22 rfl dX8_sign_12 ?_
    refine g_aload_n C dX8_sign_15 rfl 0 rfl ?_
    refine g_get (v := .int (ω 120 12)) C iX8 (by decide) (mk_11 (by decide)) rfl 12 (by decide) L110 rfl dX8_sign_16 ?_
    have hz4 : (ω 120 12).toNatClampNeg ≤ _ := (hti.1).2
    refine gv_eqS (st' := [.int (nI ((ω 120 12).toNatClampNeg)), .ref (ad 125)]) (congrArg (fun z : Int32 => ([Value.int z, .ref (ad 125)] : List Value)) (hti.1).1) ?_
    refine g_iald (k := (ω 120 12).toNatClampNeg) C 0 (by decide) (mk_12n (N := 60) (by decide) (by decide)) rfl (vp_in_nI (n := (ω 120 12).toNatClampNeg) (by omega) (by decide)) (nI_clamp (n := (ω 120 12).toNatClampNeg) (by omega)) dX8_sign_19 ?_
    refine g_goto (tgt := 24) C dX8_sign_20 (by decide) ?_
    exact g_iret C hret hlk (e1.trans (congrArg (fun z => some (Value.int z)) ((if_neg h3n).trans rfl))) e2 dX8_sign_24
abbrev rm_X8_takes : Room := { frames := 1, cells := 0, slots := 0, locals := 22 }
theorem md_X8_takes : yX8_takes.cls = RX8 ∧ yX8_takes.cls ≠ "java/lang/invoke/MethodHandle" ∧ yX8_takes.cls ≠ "java/lang/invoke/VarHandle" ∧ (parseMethodDescriptor yX8_takes.desc).map (fun d => d.parameters.length) = some 2 := by decide +kernel
def f_X8_takes_52 (a : Int32) (b : Int32) (r : Int32) (w : Int32) (u : Int32) (ω : Mem) : Int32 × Mem := (r, (st ω 120 12 (u + w)))
set_option maxRecDepth 100000 in
set_option maxHeartbeats 4000000 in
theorem k_X8_takes_52 {l_ : Launch} {p_ : Program} {e_ : Env} {s_ : State} {m_ : MethodId} {args_ : Array Value} {below_ : List Frame} {meth_ : Method} {c_ : Code} {sa : Nat → Nat} {D : va_G} {X : Nat → ClassId} {ad : Nat → Nat} {G0 : Nat → va_E} (a : Int32) (b : Int32) (C : GC p_ rm_X8_takes s_ m_ args_ meth_ c_ cX8_takes 4 wsX8_takes RX8 sa D (tyX X) (va_A (gw 128 ad G0) s_.heap.size)) (hret : meth_.sig.returnType = (some .int)) (hlk : meth_.locks = false) : ∀ (r : Int32) (w : Int32) (u : Int32) (ω : Mem)  (rv : Option Value) (G2 : Nat → va_E) (e1 : rv = some (.int (f_X8_takes_52 a b r w u ω).1)) (e2 : G2 = mk X ad (f_X8_takes_52 a b r w u ω).2), GV p_ l_ e_ rm_X8_takes s_ m_ args_ below_ meth_ c_ 0 0 (CQ below_ args_ s_ D 128 ad G0 rv G2) D (va_A (gw 128 ad G0) s_.heap.size) 4 128 ad (mk X ad ω) [(0, .ref (ad 120)), (3, .int r)] 52 [.int w, .int u, .ref (ad 120)] := by
  have iX8 : ∀ w ∈ u_ws RX8 TX8 14, w ∈ wsX8_takes := by decide +kernel
  have L110 : Cond.fieldLink RX8 110 (TX8 12).1 (TX8 12).2.1 (TX8 12).2.2.1 ∈ wsX8_takes := by decide +kernel
  intro r w u ω rv G2 e1 e2
  refine g_iadd (v := (u + w)) C dX8_takes_52 rfl ?_
  refine g_put C iX8 tyX8 tyX8_ok nmX8 (by decide) (mk_11 (by decide)) rfl 12 (by decide) L110 rfl rfl rfl (Nat.le_of_ble_eq_true rfl) dX8_takes_53 ?_
  refine gv_eqG (mkp_11_12 (by decide)) ?_
  refine g_iload_n C dX8_takes_56 rfl 1 rfl ?_
  exact g_iret C hret hlk (e1.trans (pr1 (v := r) (w := (st ω 120 12 (u + w))) rfl)) (e2.trans (pr2 (v := r) (w := (st ω 120 12 (u + w))) rfl)) dX8_takes_57
def f_X8_takes_25 (a : Int32) (b : Int32) (w : Int32) (ω : Mem) : Int32 × Mem := (if (bb ((st ω 120 13 w) 120 13)) = 0 then (f_X8_takes_52 a b ((f_X8_sign (st ω 120 13 w)) - a) 0 ((st ω 120 13 w) 120 12) (st ω 120 13 w)) else (f_X8_takes_52 a b ((f_X8_sign (st ω 120 13 w)) - a) 1 ((st ω 120 13 w) 120 12) (st ω 120 13 w)))
set_option maxRecDepth 100000 in
set_option maxHeartbeats 4000000 in
theorem k_X8_takes_25 {l_ : Launch} {p_ : Program} {e_ : Env} {s_ : State} {m_ : MethodId} {args_ : Array Value} {below_ : List Frame} {meth_ : Method} {c_ : Code} {sa : Nat → Nat} {D : va_G} {X : Nat → ClassId} {ad : Nat → Nat} {G0 : Nat → va_E} (a : Int32) (b : Int32) (C : GC p_ rm_X8_takes s_ m_ args_ meth_ c_ cX8_takes 4 wsX8_takes RX8 sa D (tyX X) (va_A (gw 128 ad G0) s_.heap.size)) (hret : meth_.sig.returnType = (some .int)) (hlk : meth_.locks = false) : ∀ (w : Int32) (ω : Mem) (hti : TI ω) (hb_w : bb w = w) (rv : Option Value) (G2 : Nat → va_E) (e1 : rv = some (.int (f_X8_takes_25 a b w ω).1)) (e2 : G2 = mk X ad (f_X8_takes_25 a b w ω).2), GV p_ l_ e_ rm_X8_takes s_ m_ args_ below_ meth_ c_ 0 0 (CQ below_ args_ s_ D 128 ad G0 rv G2) D (va_A (gw 128 ad G0) s_.heap.size) 4 128 ad (mk X ad ω) [(0, .ref (ad 120)), (1, .int a), (2, .int b)] 25 [.int w, .ref (ad 120)] := by
  have iX8 : ∀ w ∈ u_ws RX8 TX8 14, w ∈ wsX8_takes := by decide +kernel
  have L110 : Cond.fieldLink RX8 110 (TX8 12).1 (TX8 12).2.1 (TX8 12).2.2.1 ∈ wsX8_takes := by decide +kernel
  have L116 : Cond.fieldLink RX8 116 (TX8 13).1 (TX8 13).2.1 (TX8 13).2.2.1 ∈ wsX8_takes := by decide +kernel
  intro w ω hti hb_w rv G2 e1 e2
  refine g_put C iX8 tyX8 tyX8_ok nmX8 (by decide) (mk_11 (by decide)) rfl 13 (by decide) L116 rfl (nar_b hb_w).1 (nar_b hb_w).2 (Nat.le_of_ble_eq_true rfl) dX8_takes_25 ?_
  refine gv_eqG (mkp_11_13 (by decide) hb_w) ?_
  refine g_aload_n C dX8_takes_28 rfl 0 rfl ?_
  refine g_callV (rest := []) (st1 := [.int (f_X8_sign (st ω 120 13 w))]) C (c_X8_sign (st ω 120 13 w) hti) (cwV 0 C.hts gX8_takes_X8_sign rfl rfl rfl md_X8_sign ⟨Nat.le_of_ble_eq_true rfl, Nat.le_of_ble_eq_true rfl⟩) (by decide) (mk_11 (by decide)) rfl rfl rfl rfl rfl (Nat.le_of_ble_eq_true rfl) dX8_takes_29 (Nat.zero_le _) (Nat.zero_le _) ?_
  refine g_iload_n C dX8_takes_32 rfl 1 rfl ?_
  refine g_isub (v := ((f_X8_sign (st ω 120 13 w)) - a)) C dX8_takes_33 rfl ?_
  refine g_istore_n (lv' := [(3, .int ((f_X8_sign (st ω 120 13 w)) - a)), (0, .ref (ad 120)), (1, .int a), (2, .int b)]) C dX8_takes_34 rfl (by decide) rfl ?_
  refine g_aload_n C dX8_takes_35 rfl 1 rfl ?_
  refine g_dup C dX8_takes_36 rfl ?_
  refine g_get (v := .int ((st ω 120 13 w) 120 12)) C iX8 (by decide) (mk_11 (by decide)) rfl 12 (by decide) L110 rfl dX8_takes_37 ?_
  refine g_aload_n C dX8_takes_40 rfl 1 rfl ?_
  refine g_get (v := .int (bb ((st ω 120 13 w) 120 13))) C iX8 (by decide) (mk_11 (by decide)) rfl 13 (by decide) L116 rfl dX8_takes_41 ?_
  refine g_if_eq (tgt := 51) C dX8_takes_44 (by decide) (fun h1 => ?_) (fun h1 => ?_)
  · refine g_iconst (v := 0) C dX8_takes_51 (by decide) ?_
    refine gv_lv (lv' := [(0, .ref (ad 120)), (3, .int ((f_X8_sign (st ω 120 13 w)) - a))]) [1, 0] rfl ?_
    exact k_X8_takes_52 a b  C hret hlk ((f_X8_sign (st ω 120 13 w)) - a) 0 ((st ω 120 13 w) 120 12) (st ω 120 13 w)  _ _ (e1.trans (congrArg (fun z : Int32 × Mem => some (Value.int z.1)) ((if_pos h1).trans rfl))) (e2.trans (congrArg (fun z : Int32 × Mem => mk X ad z.2) ((if_pos h1).trans rfl)))
  · refine g_iconst (v := 1) C dX8_takes_47 (by decide) ?_
    refine g_goto (tgt := 52) C dX8_takes_48 (by decide) ?_
    refine gv_lv (lv' := [(0, .ref (ad 120)), (3, .int ((f_X8_sign (st ω 120 13 w)) - a))]) [1, 0] rfl ?_
    exact k_X8_takes_52 a b  C hret hlk ((f_X8_sign (st ω 120 13 w)) - a) 1 ((st ω 120 13 w) 120 12) (st ω 120 13 w)  _ _ (e1.trans (congrArg (fun z : Int32 × Mem => some (Value.int z.1)) ((if_neg h1).trans rfl))) (e2.trans (congrArg (fun z : Int32 × Mem => mk X ad z.2) ((if_neg h1).trans rfl)))
def f_X8_takes (a : Int32) (b : Int32) (ω : Mem) : Int32 × Mem := (if (bb (ω 120 13)) = 0 then (f_X8_takes_25 a b 0 ω) else (if (f_X8_in (f_X8_sign ω) a b ω) = 0 then (f_X8_takes_25 a b 0 ω) else (f_X8_takes_25 a b 1 ω)))
set_option maxRecDepth 100000 in
set_option maxHeartbeats 4000000 in
theorem c_X8_takes {l_ : Launch} {sa : Nat → Nat} {D : va_G} {X : Nat → ClassId} {ad : Nat → Nat} (a : Int32) (b : Int32) (ω : Mem) (hti : TI ω) : CT l_ yX8_takes wsX8_takes rm_X8_takes sa D (tyX X) 128 ad (mk X ad ω) [.ref (ad 120), .int a, .int b] (some (.int (f_X8_takes a b ω).1) : Option Value) (mk X ad (f_X8_takes a b ω).2) := by
  refine ct_of [(0, .ref (ad 120)), (1, .int a), (2, .int b)] (by decide +kernel) rfl rfl (Nat.le_of_ble_eq_true rfl) rfl ?_
  intro p_ e_ s_ m_ args_ below_ meth_ c_ C hret hlk hin
  have e1 : (some (.int (f_X8_takes a b ω).1) : Option Value) = (some (.int (f_X8_takes a b ω).1) : Option Value) := rfl
  have e2 : mk X ad (f_X8_takes a b ω).2 = mk X ad (f_X8_takes a b ω).2 := rfl
  have iX8 : ∀ w ∈ u_ws RX8 TX8 14, w ∈ wsX8_takes := by decide +kernel
  have L116 : Cond.fieldLink RX8 116 (TX8 13).1 (TX8 13).2.1 (TX8 13).2.2.1 ∈ wsX8_takes := by decide +kernel
  refine g_aload_n C dX8_takes_0 rfl 0 rfl ?_
  refine g_aload_n C dX8_takes_1 rfl 0 rfl ?_
  refine g_get (v := .int (bb (ω 120 13))) C iX8 (by decide) (mk_11 (by decide)) rfl 13 (by decide) L116 rfl dX8_takes_2 ?_
  refine g_if_eq (tgt := 24) C dX8_takes_5 (by decide) (fun h1 => ?_) (fun h1 => ?_)
  · refine g_iconst (v := 0) C dX8_takes_24 (by decide) ?_
    exact k_X8_takes_25 a b  C hret hlk 0 ω hti (by decide) _ _ (e1.trans (congrArg (fun z : Int32 × Mem => some (Value.int z.1)) ((if_pos h1).trans rfl))) (e2.trans (congrArg (fun z : Int32 × Mem => mk X ad z.2) ((if_pos h1).trans rfl)))
  · refine g_aload_n C dX8_takes_8 rfl 0 rfl ?_
    refine g_callV (rest := [.ref (ad 120)]) (st1 := [.int (f_X8_sign ω), .ref (ad 120)]) C (c_X8_sign ω hti) (cwV 0 C.hts gX8_takes_X8_sign rfl rfl rfl md_X8_sign ⟨Nat.le_of_ble_eq_true rfl, Nat.le_of_ble_eq_true rfl⟩) (by decide) (mk_11 (by decide)) rfl rfl rfl rfl rfl (Nat.le_of_ble_eq_true rfl) dX8_takes_9 (Nat.zero_le _) (Nat.zero_le _) ?_
    refine g_iload_n C dX8_takes_12 rfl 1 rfl ?_
    refine g_iload_n C dX8_takes_13 rfl 2 rfl ?_
    refine g_callS (rest := [.ref (ad 120)]) (st1 := [.int (f_X8_in (f_X8_sign ω) a b ω), .ref (ad 120)]) C (c_X8_in (f_X8_sign ω) a b ω) (va_cwS 3 C.hts gX8_takes_X8_in rfl rfl rfl md_X8_in.2 ⟨Nat.le_of_ble_eq_true rfl, Nat.le_of_ble_eq_true rfl⟩) rfl rfl rfl (Nat.le_of_ble_eq_true rfl) dX8_takes_14 (Nat.zero_le _) (Nat.zero_le _) ?_
    refine g_if_eq (tgt := 24) C dX8_takes_17 (by decide) (fun h2 => ?_) (fun h2 => ?_)
    · refine g_iconst (v := 0) C dX8_takes_24 (by decide) ?_
      exact k_X8_takes_25 a b  C hret hlk 0 ω hti (by decide) _ _ (e1.trans (congrArg (fun z : Int32 × Mem => some (Value.int z.1)) ((if_neg h1).trans ((if_pos h2).trans rfl)))) (e2.trans (congrArg (fun z : Int32 × Mem => mk X ad z.2) ((if_neg h1).trans ((if_pos h2).trans rfl))))
    · refine g_iconst (v := 1) C dX8_takes_20 (by decide) ?_
      refine g_goto (tgt := 25) C dX8_takes_21 (by decide) ?_
      exact k_X8_takes_25 a b  C hret hlk 1 ω hti (by decide) _ _ (e1.trans (congrArg (fun z : Int32 × Mem => some (Value.int z.1)) ((if_neg h1).trans ((if_neg h2).trans rfl)))) (e2.trans (congrArg (fun z : Int32 × Mem => mk X ad z.2) ((if_neg h1).trans ((if_neg h2).trans rfl))))
theorem sign_lt {ω : Mem} (h : ¬ f_X8_sign ω = 0) : (ω 120 12).toNatClampNeg < (ω 120 8).toNatClampNeg := by
  unfold f_X8_sign at h
  by_cases q : (ω 120 8).toNatClampNeg ≤ (ω 120 12).toNatClampNeg
  · rw [if_pos q] at h
    exact absurd rfl h
  · omega
theorem sign_13 {ω : Mem} {w : Int32} : f_X8_sign (st ω 120 13 w) = f_X8_sign ω := rfl
theorem takes_25 (a b w : Int32) (ω : Mem) (hw : w = 0 ∨ w = 1) : f_X8_takes_25 a b w ω = (f_X8_sign ω - a, st (st ω 120 13 w) 120 12 (ω 120 12 + w)) := by
  unfold f_X8_takes_25
  rcases hw with rfl | rfl
  · rw [if_pos (by rw [st_eq]; decide)]
    rfl
  · rw [if_neg (by rw [st_eq]; decide)]
    rfl
theorem takes_cases (a b : Int32) (ω : Mem) : ((bb (ω 120 13) = 0 ∨ f_X8_in (f_X8_sign ω) a b ω = 0) ∧ f_X8_takes a b ω = (f_X8_sign ω - a, st (st ω 120 13 0) 120 12 (ω 120 12))) ∨ (¬ bb (ω 120 13) = 0 ∧ ¬ f_X8_in (f_X8_sign ω) a b ω = 0 ∧ f_X8_takes a b ω = (f_X8_sign ω - a, st (st ω 120 13 1) 120 12 (ω 120 12 + 1))) := by
  unfold f_X8_takes
  by_cases h1 : bb (ω 120 13) = 0
  · rw [if_pos h1, takes_25 _ _ _ _ (Or.inl rfl), Int32.add_zero]
    exact Or.inl ⟨Or.inl h1, rfl⟩
  · rw [if_neg h1]
    by_cases h2 : f_X8_in (f_X8_sign ω) a b ω = 0
    · rw [if_pos h2, takes_25 _ _ _ _ (Or.inl rfl), Int32.add_zero]
      exact Or.inl ⟨Or.inr h2, rfl⟩
    · rw [if_neg h2, takes_25 _ _ _ _ (Or.inr rfl)]
      exact Or.inr ⟨h1, h2, rfl⟩
theorem in_ne {v a b : Int32} {ω : Mem} (ha : 0 < a.toInt) (h : ¬ f_X8_in v a b ω = 0) : ¬ v = 0 := by
  unfold f_X8_in at h
  by_cases h1 : v < a
  · rw [if_pos h1] at h
    exact absurd rfl h
  · intro e
    rw [e, Int32.lt_iff_toInt_lt] at h1
    have : (0 : Int32).toInt = 0 := rfl
    omega
theorem takes_TS {s : Nat} {a b : Int32} {ω : Mem} (ha : 0 < a.toInt) (h : TS s ω) : TS (s + 1) (f_X8_takes a b ω).2 ∧ (ω 120 12).toNatClampNeg ≤ ((f_X8_takes a b ω).2 120 12).toNatClampNeg ∧ (¬ bb ((f_X8_takes a b ω).2 120 13) = 0 → ((f_X8_takes a b ω).2 120 12).toNatClampNeg = (ω 120 12).toNatClampNeg + 1) := by
  obtain ⟨⟨t1, t2, t3, t4, t5⟩, hs⟩ := h
  rcases takes_cases a b ω with ⟨-, e⟩ | ⟨w, c, e⟩
  · rw [e]
    exact ⟨⟨⟨t1, t2, t3, t4, t5⟩, fun z => absurd (by decide : bb 0 = 0) z⟩, Nat.le_refl _, fun z => absurd (by decide : bb 0 = 0) z⟩
  · rw [e]
    have hlt := sign_lt (in_ne ha c)
    have h60 := t2.2
    have e1 : ω 120 12 + 1 = nI ((ω 120 12).toNatClampNeg + 1) := by
      conv => lhs; rw [t1.1]
      exact nI_1 _
    have e2 : (ω 120 12 + 1).toNatClampNeg = (ω 120 12).toNatClampNeg + 1 := by rw [e1, nI_clamp (by omega)]
    have hsw := hs w
    refine ⟨⟨⟨?_, t2, ?_, t4, ?_⟩, fun _ => ?_⟩, ?_, fun _ => ?_⟩
    · show rg (ω 120 12 + 1) 60
      rw [e1]
      exact rg_of (by omega) (by omega)
    · show (ω 120 12 + 1).toNatClampNeg ≤ (ω 120 8).toNatClampNeg
      omega
    · show 3 * (ω 120 11).toNatClampNeg ≤ (ω 120 12 + 1).toNatClampNeg
      omega
    · show 3 * (ω 120 11).toNatClampNeg + (s + 1) ≤ (ω 120 12 + 1).toNatClampNeg
      omega
    · show (ω 120 12).toNatClampNeg ≤ (ω 120 12 + 1).toNatClampNeg
      omega
    · exact e2
theorem TS.weaken {s k : Nat} {ω : Mem} (h : TS s ω) (hk : k ≤ s) : TS k ω := ⟨h.1, fun z => by have := h.2 z; omega⟩
theorem TI.ts {ω : Mem} (h : TI ω) : TS 0 ω := ⟨h, fun _ => h.2.2.2.2⟩
theorem takes_TI {a b : Int32} {ω : Mem} (ha : 0 < a.toInt) (h : TI ω) : TI (f_X8_takes a b ω).2 := (takes_TS ha h.ts).1.1
theorem takes_FT (a b : Int32) (ω : Mem) : FT ω (f_X8_takes a b ω).2 := by
  rcases takes_cases a b ω with ⟨-, e⟩ | ⟨-, -, e⟩ <;> rw [e]
  · exact (FT.s (by omega)).tr (FT.s (by omega))
  · exact (FT.s (by omega)).tr (FT.s (by omega))
abbrev rm_X8_readsEntry : Room := { frames := 2, cells := 0, slots := 0, locals := 45 }
theorem md_X8_readsEntry : yX8_readsEntry.cls = RX8 ∧ yX8_readsEntry.cls ≠ "java/lang/invoke/MethodHandle" ∧ yX8_readsEntry.cls ≠ "java/lang/invoke/VarHandle" ∧ (parseMethodDescriptor yX8_readsEntry.desc).map (fun d => d.parameters.length) = some 0 := by decide +kernel
def f_X8_readsEntry_79 (t : Int32) (d : Int32) (ω : Mem) : Mem := (if (bb (ω 120 13)) = 0 then ω else (st (st (st ω 126 ((ω 120 11).toNatClampNeg) t) 127 (((st ω 126 ((ω 120 11).toNatClampNeg) t) 120 11).toNatClampNeg) d) 120 11 (((st (st ω 126 ((ω 120 11).toNatClampNeg) t) 127 (((st ω 126 ((ω 120 11).toNatClampNeg) t) 120 11).toNatClampNeg) d) 120 11) + 1)))
set_option maxRecDepth 100000 in
set_option maxHeartbeats 4000000 in
theorem k_X8_readsEntry_79 {l_ : Launch} {p_ : Program} {e_ : Env} {s_ : State} {m_ : MethodId} {args_ : Array Value} {below_ : List Frame} {meth_ : Method} {c_ : Code} {sa : Nat → Nat} {D : va_G} {X : Nat → ClassId} {ad : Nat → Nat} {G0 : Nat → va_E}  (C : GC p_ rm_X8_readsEntry s_ m_ args_ meth_ c_ cX8_readsEntry 3 wsX8_readsEntry RX8 sa D (tyX X) (va_A (gw 128 ad G0) s_.heap.size)) (hret : meth_.sig.returnType = none) (hlk : meth_.locks = false) : ∀ (t : Int32) (d : Int32) (ω : Mem) (hrm : rg (ω 120 11) 20) (rv : Option Value) (G2 : Nat → va_E) (e1 : rv = none) (e2 : G2 = mk X ad (f_X8_readsEntry_79 t d ω)), GV p_ l_ e_ rm_X8_readsEntry s_ m_ args_ below_ meth_ c_ 0 0 (CQ below_ args_ s_ D 128 ad G0 rv G2) D (va_A (gw 128 ad G0) s_.heap.size) 3 128 ad (mk X ad ω) [(0, .ref (ad 120)), (1, .int t), (2, .int d)] 79 [] := by
  have iX8 : ∀ w ∈ u_ws RX8 TX8 14, w ∈ wsX8_readsEntry := by decide +kernel
  have L116 : Cond.fieldLink RX8 116 (TX8 13).1 (TX8 13).2.1 (TX8 13).2.2.1 ∈ wsX8_readsEntry := by decide +kernel
  have L127 : Cond.fieldLink RX8 127 (TX8 11).1 (TX8 11).2.1 (TX8 11).2.2.1 ∈ wsX8_readsEntry := by decide +kernel
  have L25 : Cond.fieldLink RX8 25 (TX8 9).1 (TX8 9).2.1 (TX8 9).2.2.1 ∈ wsX8_readsEntry := by decide +kernel
  have L28 : Cond.fieldLink RX8 28 (TX8 10).1 (TX8 10).2.1 (TX8 10).2.2.1 ∈ wsX8_readsEntry := by decide +kernel
  intro t d ω hrm rv G2 e1 e2
  refine g_aload_n C dX8_readsEntry_79 rfl 0 rfl ?_
  refine g_get (v := .int (bb (ω 120 13))) C iX8 (by decide) (mk_11 (by decide)) rfl 13 (by decide) L116 rfl dX8_readsEntry_80 ?_
  refine g_if_eq (tgt := 116) C dX8_readsEntry_83 (by decide) (fun h1 => ?_) (fun h1 => ?_)
  · exact g_vret C hret hlk e1 (e2.trans (congrArg (mk X ad) ((if_pos h1).trans rfl))) dX8_readsEntry_116
  · refine g_aload_n C dX8_readsEntry_86 rfl 0 rfl ?_
    refine g_get (v := .ref (ad 126)) C iX8 (by decide) (mk_11 (by decide)) rfl 9 (by decide) L25 rfl dX8_readsEntry_87 ?_
    refine g_aload_n C dX8_readsEntry_90 rfl 0 rfl ?_
    refine g_get (v := .int (ω 120 11)) C iX8 (by decide) (mk_11 (by decide)) rfl 11 (by decide) L127 rfl dX8_readsEntry_91 ?_
    have hz2 : (ω 120 11).toNatClampNeg ≤ _ := (hrm).2
    refine gv_eqS (st' := [.int (nI ((ω 120 11).toNatClampNeg)), .ref (ad 126)]) (congrArg (fun z : Int32 => ([Value.int z, .ref (ad 126)] : List Value)) (hrm).1) ?_
    refine g_iload_n C dX8_readsEntry_94 rfl 1 rfl ?_
    refine g_iast (k := (ω 120 11).toNatClampNeg) C 0 (by decide) (mk_12n (N := 32) (by decide) (by decide)) rfl (vp_in_nI (n := (ω 120 11).toNatClampNeg) (by omega) (by decide)) (nI_clamp (n := (ω 120 11).toNatClampNeg) (by omega)) dX8_readsEntry_95 ?_
    refine gv_eqG (mk_row (N := 32) (by decide) (by decide)) ?_
    refine g_aload_n C dX8_readsEntry_96 rfl 0 rfl ?_
    refine g_get (v := .ref (ad 127)) C iX8 (by decide) (mk_11 (by decide)) rfl 10 (by decide) L28 rfl dX8_readsEntry_97 ?_
    refine g_aload_n C dX8_readsEntry_100 rfl 0 rfl ?_
    refine g_get (v := .int ((st ω 126 ((ω 120 11).toNatClampNeg) t) 120 11)) C iX8 (by decide) (mk_11 (by decide)) rfl 11 (by decide) L127 rfl dX8_readsEntry_101 ?_
    have hz3 : ((st ω 126 ((ω 120 11).toNatClampNeg) t) 120 11).toNatClampNeg ≤ _ := (hrm).2
    refine gv_eqS (st' := [.int (nI (((st ω 126 ((ω 120 11).toNatClampNeg) t) 120 11).toNatClampNeg)), .ref (ad 127)]) (congrArg (fun z : Int32 => ([Value.int z, .ref (ad 127)] : List Value)) (hrm).1) ?_
    refine g_iload_n C dX8_readsEntry_104 rfl 2 rfl ?_
    refine g_iast (k := ((st ω 126 ((ω 120 11).toNatClampNeg) t) 120 11).toNatClampNeg) C 0 (by decide) (mk_12n (N := 32) (by decide) (by decide)) rfl (vp_in_nI (n := ((st ω 126 ((ω 120 11).toNatClampNeg) t) 120 11).toNatClampNeg) (by omega) (by decide)) (nI_clamp (n := ((st ω 126 ((ω 120 11).toNatClampNeg) t) 120 11).toNatClampNeg) (by omega)) dX8_readsEntry_105 ?_
    refine gv_eqG (mk_row (N := 32) (by decide) (by decide)) ?_
    refine g_aload_n C dX8_readsEntry_106 rfl 0 rfl ?_
    refine g_dup C dX8_readsEntry_107 rfl ?_
    refine g_get (v := .int ((st (st ω 126 ((ω 120 11).toNatClampNeg) t) 127 (((st ω 126 ((ω 120 11).toNatClampNeg) t) 120 11).toNatClampNeg) d) 120 11)) C iX8 (by decide) (mk_11 (by decide)) rfl 11 (by decide) L127 rfl dX8_readsEntry_108 ?_
    refine g_iconst (v := 1) C dX8_readsEntry_111 (by decide) ?_
    refine g_iadd (v := (((st (st ω 126 ((ω 120 11).toNatClampNeg) t) 127 (((st ω 126 ((ω 120 11).toNatClampNeg) t) 120 11).toNatClampNeg) d) 120 11) + 1)) C dX8_readsEntry_112 rfl ?_
    refine g_put C iX8 tyX8 tyX8_ok nmX8 (by decide) (mk_11 (by decide)) rfl 11 (by decide) L127 rfl rfl rfl (Nat.le_of_ble_eq_true rfl) dX8_readsEntry_113 ?_
    refine gv_eqG (mkp_11_11 (by decide)) ?_
    exact g_vret C hret hlk e1 (e2.trans (congrArg (mk X ad) ((if_neg h1).trans rfl))) dX8_readsEntry_116
def f_X8_readsEntry_61 (t : Int32) (ω : Mem) : Mem := (f_X8_readsEntry_79 t ((f_X8_takes 48 57 (f_X8_takes 58 58 ω).2).1) (f_X8_takes 48 57 (f_X8_takes 58 58 ω).2).2)
set_option maxRecDepth 100000 in
set_option maxHeartbeats 4000000 in
theorem k_X8_readsEntry_61 {l_ : Launch} {p_ : Program} {e_ : Env} {s_ : State} {m_ : MethodId} {args_ : Array Value} {below_ : List Frame} {meth_ : Method} {c_ : Code} {sa : Nat → Nat} {D : va_G} {X : Nat → ClassId} {ad : Nat → Nat} {G0 : Nat → va_E}  (C : GC p_ rm_X8_readsEntry s_ m_ args_ meth_ c_ cX8_readsEntry 3 wsX8_readsEntry RX8 sa D (tyX X) (va_A (gw 128 ad G0) s_.heap.size)) (hret : meth_.sig.returnType = none) (hlk : meth_.locks = false) : ∀ (t : Int32) (ω : Mem) (hti : TI ω) (rv : Option Value) (G2 : Nat → va_E) (e1 : rv = none) (e2 : G2 = mk X ad (f_X8_readsEntry_61 t ω)), GV p_ l_ e_ rm_X8_readsEntry s_ m_ args_ below_ meth_ c_ 0 0 (CQ below_ args_ s_ D 128 ad G0 rv G2) D (va_A (gw 128 ad G0) s_.heap.size) 3 128 ad (mk X ad ω) [(0, .ref (ad 120)), (1, .int t)] 61 [] := by
  intro t ω hti rv G2 e1 e2
  refine g_aload_n C dX8_readsEntry_61 rfl 0 rfl ?_
  refine g_bipush (v := 58) C dX8_readsEntry_62 (by decide) ?_
  refine g_bipush (v := 58) C dX8_readsEntry_64 (by decide) ?_
  refine g_callV (rest := []) (st1 := [.int (f_X8_takes 58 58 ω).1]) C (c_X8_takes 58 58 ω hti) (cwV 2 C.hts gX8_readsEntry_X8_takes rfl rfl rfl md_X8_takes ⟨Nat.le_of_ble_eq_true rfl, Nat.le_of_ble_eq_true rfl⟩) (by decide) (mk_11 (by decide)) rfl rfl rfl rfl rfl (Nat.le_of_ble_eq_true rfl) dX8_readsEntry_66 (Nat.zero_le _) (Nat.zero_le _) ?_
  refine g_pop C dX8_readsEntry_69 rfl ?_
  refine g_aload_n C dX8_readsEntry_70 rfl 0 rfl ?_
  refine g_bipush (v := 48) C dX8_readsEntry_71 (by decide) ?_
  refine g_bipush (v := 57) C dX8_readsEntry_73 (by decide) ?_
  refine g_callV (rest := []) (st1 := [.int (f_X8_takes 48 57 (f_X8_takes 58 58 ω).2).1]) C (c_X8_takes 48 57 (f_X8_takes 58 58 ω).2 (takes_TI (by decide) hti)) (cwV 2 C.hts gX8_readsEntry_X8_takes rfl rfl rfl md_X8_takes ⟨Nat.le_of_ble_eq_true rfl, Nat.le_of_ble_eq_true rfl⟩) (by decide) (mk_11 (by decide)) rfl rfl rfl rfl rfl (Nat.le_of_ble_eq_true rfl) dX8_readsEntry_75 (Nat.zero_le _) (Nat.zero_le _) ?_
  refine g_istore_n (lv' := [(2, .int (f_X8_takes 48 57 (f_X8_takes 58 58 ω).2).1), (0, .ref (ad 120)), (1, .int t)]) C dX8_readsEntry_78 rfl (by decide) rfl ?_
  refine gv_lv (lv' := [(0, .ref (ad 120)), (1, .int t), (2, .int (f_X8_takes 48 57 (f_X8_takes 58 58 ω).2).1)]) [1, 2, 0] rfl ?_
  exact k_X8_readsEntry_79   C hret hlk t ((f_X8_takes 48 57 (f_X8_takes 58 58 ω).2).1) (f_X8_takes 48 57 (f_X8_takes 58 58 ω).2).2 (takes_TI (a := 48) (b := 57) (by decide) (takes_TI (a := 58) (b := 58) (by decide) hti)).2.2.2.1 _ _ e1 (e2.trans (congrArg (mk X ad) rfl))
def f_X8_readsEntry_11 : Nat → Int32 → Nat → Mem → Mem
  | 0, _, _, ω => ω
  | fu + 1, t, j, ω => (if 4 ≤ j then (f_X8_readsEntry_61 t ω) else (if (bb (ω 120 13)) = 0 then (f_X8_readsEntry_61 t ω) else (if t ≤ 0 then (f_X8_readsEntry_61 t ω) else (if (f_X8_in (f_X8_sign ω) 48 57 ω) = 0 then (f_X8_readsEntry_61 t ω) else (f_X8_readsEntry_11 fu ((10 * t) + (f_X8_takes 48 57 ω).1) (j + 1) (f_X8_takes 48 57 ω).2)))))
set_option maxRecDepth 100000 in
set_option maxHeartbeats 4000000 in
theorem k_X8_readsEntry_11 {l_ : Launch} {p_ : Program} {e_ : Env} {s_ : State} {m_ : MethodId} {args_ : Array Value} {below_ : List Frame} {meth_ : Method} {c_ : Code} {sa : Nat → Nat} {D : va_G} {X : Nat → ClassId} {ad : Nat → Nat} {G0 : Nat → va_E} (fu : Nat)  (C : GC p_ rm_X8_readsEntry s_ m_ args_ meth_ c_ cX8_readsEntry 3 wsX8_readsEntry RX8 sa D (tyX X) (va_A (gw 128 ad G0) s_.heap.size)) (hret : meth_.sig.returnType = none) (hlk : meth_.locks = false) : ∀ (t : Int32) (j : Nat) (ω : Mem) (hti : TI ω) (hj : j ≤ 4) (hfuel : 4 < j + fu) (rv : Option Value) (G2 : Nat → va_E) (e1 : rv = none) (e2 : G2 = mk X ad (f_X8_readsEntry_11 fu t j ω)), GV p_ l_ e_ rm_X8_readsEntry s_ m_ args_ below_ meth_ c_ 0 0 (CQ below_ args_ s_ D 128 ad G0 rv G2) D (va_A (gw 128 ad G0) s_.heap.size) 3 128 ad (mk X ad ω) [(0, .ref (ad 120)), (1, .int t), (2, .int (nI (j)))] 11 [] := by
  have iX8 : ∀ w ∈ u_ws RX8 TX8 14, w ∈ wsX8_readsEntry := by decide +kernel
  have L116 : Cond.fieldLink RX8 116 (TX8 13).1 (TX8 13).2.1 (TX8 13).2.2.1 ∈ wsX8_readsEntry := by decide +kernel
  induction fu with
  | zero =>
    intro t j ω hti hj hfuel rv G2 e1 e2
    exact absurd hfuel (by omega)
  | succ fu ih =>
    intro t j ω hti hj hfuel rv G2 e1 e2
    refine g_iload_n C dX8_readsEntry_11 rfl 2 rfl ?_
    refine g_iconst (v := 4) C dX8_readsEntry_12 (by decide) ?_
    refine g_icmp_ge (tgt := 61) C dX8_readsEntry_13 (by decide) (fun h1 => ?_) (fun h1 => ?_)
    · have h1n := (nI_leI (a := 4) (b := j) (by omega) (by omega)).mp h1
      refine gv_lv (lv' := [(0, .ref (ad 120)), (1, .int t)]) [0, 1] rfl ?_
      exact k_X8_readsEntry_61   C hret hlk t ω hti _ _ e1 (e2.trans (congrArg (mk X ad) ((if_pos h1n).trans rfl)))
    · have h1n := (not_congr (nI_leI (a := 4) (b := j) (by omega) (by omega))).mp h1
      refine g_aload_n C dX8_readsEntry_16 rfl 0 rfl ?_
      refine g_get (v := .int (bb (ω 120 13))) C iX8 (by decide) (mk_11 (by decide)) rfl 13 (by decide) L116 rfl dX8_readsEntry_17 ?_
      refine g_if_eq (tgt := 61) C dX8_readsEntry_20 (by decide) (fun h2 => ?_) (fun h2 => ?_)
      · refine gv_lv (lv' := [(0, .ref (ad 120)), (1, .int t)]) [0, 1] rfl ?_
        exact k_X8_readsEntry_61   C hret hlk t ω hti _ _ e1 (e2.trans (congrArg (mk X ad) ((if_neg h1n).trans ((if_pos h2).trans rfl))))
      · refine g_iload_n C dX8_readsEntry_23 rfl 1 rfl ?_
        refine g_if_le (tgt := 61) C dX8_readsEntry_24 (by decide) (fun h3 => ?_) (fun h3 => ?_)
        · refine gv_lv (lv' := [(0, .ref (ad 120)), (1, .int t)]) [0, 1] rfl ?_
          exact k_X8_readsEntry_61   C hret hlk t ω hti _ _ e1 (e2.trans (congrArg (mk X ad) ((if_neg h1n).trans ((if_neg h2).trans ((if_pos h3).trans rfl)))))
        · refine g_aload_n C dX8_readsEntry_27 rfl 0 rfl ?_
          refine g_callV (rest := []) (st1 := [.int (f_X8_sign ω)]) C (c_X8_sign ω hti) (cwV 0 C.hts gX8_readsEntry_X8_sign rfl rfl rfl md_X8_sign ⟨Nat.le_of_ble_eq_true rfl, Nat.le_of_ble_eq_true rfl⟩) (by decide) (mk_11 (by decide)) rfl rfl rfl rfl rfl (Nat.le_of_ble_eq_true rfl) dX8_readsEntry_28 (Nat.zero_le _) (Nat.zero_le _) ?_
          refine g_bipush (v := 48) C dX8_readsEntry_31 (by decide) ?_
          refine g_bipush (v := 57) C dX8_readsEntry_33 (by decide) ?_
          refine g_callS (rest := []) (st1 := [.int (f_X8_in (f_X8_sign ω) 48 57 ω)]) C (c_X8_in (f_X8_sign ω) 48 57 ω) (va_cwS 3 C.hts gX8_readsEntry_X8_in rfl rfl rfl md_X8_in.2 ⟨Nat.le_of_ble_eq_true rfl, Nat.le_of_ble_eq_true rfl⟩) rfl rfl rfl (Nat.le_of_ble_eq_true rfl) dX8_readsEntry_35 (Nat.zero_le _) (Nat.zero_le _) ?_
          refine g_if_eq (tgt := 61) C dX8_readsEntry_38 (by decide) (fun h4 => ?_) (fun h4 => ?_)
          · refine gv_lv (lv' := [(0, .ref (ad 120)), (1, .int t)]) [0, 1] rfl ?_
            exact k_X8_readsEntry_61   C hret hlk t ω hti _ _ e1 (e2.trans (congrArg (mk X ad) ((if_neg h1n).trans ((if_neg h2).trans ((if_neg h3).trans ((if_pos h4).trans rfl))))))
          · refine g_bipush (v := 10) C dX8_readsEntry_41 (by decide) ?_
            refine g_iload_n C dX8_readsEntry_43 rfl 1 rfl ?_
            refine g_imul (v := (10 * t)) C dX8_readsEntry_44 rfl ?_
            refine g_aload_n C dX8_readsEntry_45 rfl 0 rfl ?_
            refine g_bipush (v := 48) C dX8_readsEntry_46 (by decide) ?_
            refine g_bipush (v := 57) C dX8_readsEntry_48 (by decide) ?_
            refine g_callV (rest := [.int (10 * t)]) (st1 := [.int (f_X8_takes 48 57 ω).1, .int (10 * t)]) C (c_X8_takes 48 57 ω hti) (cwV 2 C.hts gX8_readsEntry_X8_takes rfl rfl rfl md_X8_takes ⟨Nat.le_of_ble_eq_true rfl, Nat.le_of_ble_eq_true rfl⟩) (by decide) (mk_11 (by decide)) rfl rfl rfl rfl rfl (Nat.le_of_ble_eq_true rfl) dX8_readsEntry_50 (Nat.zero_le _) (Nat.zero_le _) ?_
            refine g_iadd (v := ((10 * t) + (f_X8_takes 48 57 ω).1)) C dX8_readsEntry_53 rfl ?_
            refine g_istore_n (lv' := [(1, .int ((10 * t) + (f_X8_takes 48 57 ω).1)), (0, .ref (ad 120)), (2, .int (nI (j)))]) C dX8_readsEntry_54 rfl (by decide) rfl ?_
            refine g_iinc (k := 2) (v := (nI (j + 1))) (lv' := [(2, .int (nI (j + 1))), (1, .int ((10 * t) + (f_X8_takes 48 57 ω).1)), (0, .ref (ad 120))]) C dX8_readsEntry_55 rfl (nI_1 (j)) (by decide) rfl ?_
            refine g_goto (tgt := 11) C dX8_readsEntry_58 (by decide) ?_
            refine gv_lv (lv' := [(0, .ref (ad 120)), (1, .int ((10 * t) + (f_X8_takes 48 57 ω).1)), (2, .int (nI (j + 1)))]) [2, 1, 0] rfl ?_
            exact ih ((10 * t) + (f_X8_takes 48 57 ω).1) (j + 1) (f_X8_takes 48 57 ω).2 (takes_TI (by decide) hti) (by omega) (by omega) _ _ e1 (e2.trans (congrArg (mk X ad) ((if_neg h1n).trans ((if_neg h2).trans ((if_neg h3).trans ((if_neg h4).trans rfl))))))
def f_X8_readsEntry  (ω : Mem) : Mem := (f_X8_readsEntry_11 5 ((f_X8_takes 48 57 ω).1) 1 (f_X8_takes 48 57 ω).2)
set_option maxRecDepth 100000 in
set_option maxHeartbeats 4000000 in
theorem c_X8_readsEntry {l_ : Launch} {sa : Nat → Nat} {D : va_G} {X : Nat → ClassId} {ad : Nat → Nat}  (ω : Mem) (hti : TI ω) : CT l_ yX8_readsEntry wsX8_readsEntry rm_X8_readsEntry sa D (tyX X) 128 ad (mk X ad ω) [.ref (ad 120)] (none : Option Value) (mk X ad (f_X8_readsEntry ω)) := by
  refine ct_of [(0, .ref (ad 120))] (by decide +kernel) rfl rfl (Nat.le_of_ble_eq_true rfl) rfl ?_
  intro p_ e_ s_ m_ args_ below_ meth_ c_ C hret hlk hin
  have e1 : (none : Option Value) = (none : Option Value) := rfl
  have e2 : mk X ad (f_X8_readsEntry ω) = mk X ad (f_X8_readsEntry ω) := rfl
  refine g_aload_n C dX8_readsEntry_0 rfl 0 rfl ?_
  refine g_bipush (v := 48) C dX8_readsEntry_1 (by decide) ?_
  refine g_bipush (v := 57) C dX8_readsEntry_3 (by decide) ?_
  refine g_callV (rest := []) (st1 := [.int (f_X8_takes 48 57 ω).1]) C (c_X8_takes 48 57 ω hti) (cwV 2 C.hts gX8_readsEntry_X8_takes rfl rfl rfl md_X8_takes ⟨Nat.le_of_ble_eq_true rfl, Nat.le_of_ble_eq_true rfl⟩) (by decide) (mk_11 (by decide)) rfl rfl rfl rfl rfl (Nat.le_of_ble_eq_true rfl) dX8_readsEntry_5 (Nat.zero_le _) (Nat.zero_le _) ?_
  refine g_istore_n (lv' := [(1, .int (f_X8_takes 48 57 ω).1), (0, .ref (ad 120))]) C dX8_readsEntry_8 rfl (by decide) rfl ?_
  refine g_iconst (v := 1) C dX8_readsEntry_9 (by decide) ?_
  refine g_istore_n (lv' := [(2, .int 1), (1, .int (f_X8_takes 48 57 ω).1), (0, .ref (ad 120))]) C dX8_readsEntry_10 rfl (by decide) rfl ?_
  refine gv_lv (lv' := [(0, .ref (ad 120)), (1, .int (f_X8_takes 48 57 ω).1), (2, .int 1)]) [2, 1, 0] rfl ?_
  exact k_X8_readsEntry_11 (5)   C hret hlk ((f_X8_takes 48 57 ω).1) 1 (f_X8_takes 48 57 ω).2 (takes_TI (by decide) hti) (by omega) (by omega) _ _ e1 (e2.trans (congrArg (mk X ad) rfl))
theorem re79 {t d : Int32} {ω : Mem} (h : TS 3 ω) : TI (f_X8_readsEntry_79 t d ω) ∧ (f_X8_readsEntry_79 t d ω) 120 12 = ω 120 12 ∧ FT ω (f_X8_readsEntry_79 t d ω) := by
  unfold f_X8_readsEntry_79
  by_cases h1 : bb (ω 120 13) = 0
  · rw [if_pos h1]
    exact ⟨h.1, rfl, FT.rf⟩
  · rw [if_neg h1]
    obtain ⟨⟨t1, t2, t3, t4, t5⟩, hs⟩ := h
    have hs := hs h1
    have h60 := t1.2
    have e1 : ω 120 11 + 1 = nI ((ω 120 11).toNatClampNeg + 1) := by
      conv => lhs; rw [t4.1]
      exact nI_1 _
    have e2 : (ω 120 11 + 1).toNatClampNeg = (ω 120 11).toNatClampNeg + 1 := by rw [e1, nI_clamp (by omega)]
    refine ⟨⟨t1, t2, t3, ?_, ?_⟩, rfl, ((FT.o (by omega)).tr (FT.o (by omega))).tr (FT.s (by omega))⟩
    · show rg (ω 120 11 + 1) 20
      rw [e1]
      exact rg_of (by omega) (by omega)
    · show 3 * (ω 120 11 + 1).toNatClampNeg ≤ (ω 120 12).toNatClampNeg
      omega
theorem re61 {t : Int32} {ω : Mem} (h : TS 1 ω) : TI (f_X8_readsEntry_61 t ω) ∧ (ω 120 12).toNatClampNeg ≤ ((f_X8_readsEntry_61 t ω) 120 12).toNatClampNeg ∧ FT ω (f_X8_readsEntry_61 t ω) := by
  unfold f_X8_readsEntry_61
  have a1 := takes_TS (s := 1) (a := 58) (b := 58) (by decide) h
  have a2 := takes_TS (s := 2) (a := 48) (b := 57) (by decide) a1.1
  have a3 := re79 (t := t) (d := (f_X8_takes 48 57 (f_X8_takes 58 58 ω).2).1) a2.1
  exact ⟨a3.1, by rw [a3.2.1]; exact Nat.le_trans a1.2.1 a2.2.1, ((takes_FT _ _ _).tr (takes_FT _ _ _)).tr a3.2.2⟩
theorem re11 : ∀ (fu : Nat) (t : Int32) (j : Nat) (ω : Mem), 4 < j + fu → j ≤ 4 → TS 1 ω → TI (f_X8_readsEntry_11 fu t j ω) ∧ (ω 120 12).toNatClampNeg ≤ ((f_X8_readsEntry_11 fu t j ω) 120 12).toNatClampNeg ∧ FT ω (f_X8_readsEntry_11 fu t j ω) := by
  intro fu
  induction fu with
  | zero => intro t j ω hf hj h; omega
  | succ fu ih =>
    intro t j ω hf hj h
    unfold f_X8_readsEntry_11
    by_cases h1 : 4 ≤ j
    · rw [if_pos h1]; exact re61 h
    · rw [if_neg h1]
      by_cases h2 : bb (ω 120 13) = 0
      · rw [if_pos h2]; exact re61 h
      · rw [if_neg h2]
        by_cases h3 : t ≤ 0
        · rw [if_pos h3]; exact re61 h
        · rw [if_neg h3]
          by_cases h4 : f_X8_in (f_X8_sign ω) 48 57 ω = 0
          · rw [if_pos h4]; exact re61 h
          · rw [if_neg h4]
            have a1 := takes_TS (s := 1) (a := 48) (b := 57) (by decide) h
            have a2 := ih ((10 * t) + (f_X8_takes 48 57 ω).1) (j + 1) (f_X8_takes 48 57 ω).2 (by omega) (by omega) (a1.1.weaken (by decide))
            exact ⟨a2.1, Nat.le_trans a1.2.1 a2.2.1, (takes_FT _ _ _).tr a2.2.2⟩
theorem readsEntry_all {ω : Mem} (h : TI ω) : TI (f_X8_readsEntry ω) ∧ (ω 120 12).toNatClampNeg ≤ ((f_X8_readsEntry ω) 120 12).toNatClampNeg ∧ FT ω (f_X8_readsEntry ω) := by
  unfold f_X8_readsEntry
  have a1 := takes_TS (s := 0) (a := 48) (b := 57) (by decide) h.ts
  have a2 := re11 5 (f_X8_takes 48 57 ω).1 1 (f_X8_takes 48 57 ω).2 (by decide) (by decide) a1.1
  exact ⟨a2.1, Nat.le_trans a1.2.1 a2.2.1, (takes_FT _ _ _).tr a2.2.2⟩
theorem TI_0 {ω : Mem} (h : rg (ω 120 8) 60) : TI (st (st (st ω 120 12 0) 120 13 1) 120 11 0) := ⟨rg_of (j := 0) (by decide) (by decide), h, Nat.zero_le _, rg_of (j := 0) (by decide) (by decide), Nat.le_refl _⟩
abbrev rm_X8_reads : Room := { frames := 3, cells := 0, slots := 0, locals := 67 }
theorem md_X8_reads : yX8_reads.cls = RX8 ∧ yX8_reads.cls ≠ "java/lang/invoke/MethodHandle" ∧ yX8_reads.cls ≠ "java/lang/invoke/VarHandle" ∧ (parseMethodDescriptor yX8_reads.desc).map (fun d => d.parameters.length) = some 0 := by decide +kernel
def f_X8_reads_19 : Nat → Mem → Int32 × Mem
  | 0, ω => (0, ω)
  | fu + 1, ω => (if (bb (ω 120 13)) = 0 then ((ω 120 12), ω) else (if (ω 120 8).toNatClampNeg ≤ (ω 120 12).toNatClampNeg then ((-5), ω) else (if (bb ((f_X8_takes 44 44 ω).2 120 13)) = 0 then (f_X8_reads_19 fu (f_X8_takes 44 44 ω).2) else (f_X8_reads_19 fu (f_X8_readsEntry (f_X8_takes 44 44 ω).2)))))
set_option maxRecDepth 100000 in
set_option maxHeartbeats 4000000 in
theorem k_X8_reads_19 {l_ : Launch} {p_ : Program} {e_ : Env} {s_ : State} {m_ : MethodId} {args_ : Array Value} {below_ : List Frame} {meth_ : Method} {c_ : Code} {sa : Nat → Nat} {D : va_G} {X : Nat → ClassId} {ad : Nat → Nat} {G0 : Nat → va_E} (fu : Nat)  (C : GC p_ rm_X8_reads s_ m_ args_ meth_ c_ cX8_reads 1 wsX8_reads RX8 sa D (tyX X) (va_A (gw 128 ad G0) s_.heap.size)) (hret : meth_.sig.returnType = (some .int)) (hlk : meth_.locks = false) : ∀  (ω : Mem) (hti : TI ω) (hfuel : bb (ω 120 13) = 0 ∧ 0 < fu ∨ 60 < (ω 120 12).toNatClampNeg + fu) (rv : Option Value) (G2 : Nat → va_E) (e1 : rv = some (.int (f_X8_reads_19 fu ω).1)) (e2 : G2 = mk X ad (f_X8_reads_19 fu ω).2), GV p_ l_ e_ rm_X8_reads s_ m_ args_ below_ meth_ c_ 0 0 (CQ below_ args_ s_ D 128 ad G0 rv G2) D (va_A (gw 128 ad G0) s_.heap.size) 1 128 ad (mk X ad ω) [(0, .ref (ad 120))] 19 [] := by
  have iX8 : ∀ w ∈ u_ws RX8 TX8 14, w ∈ wsX8_reads := by decide +kernel
  have L110 : Cond.fieldLink RX8 110 (TX8 12).1 (TX8 12).2.1 (TX8 12).2.2.1 ∈ wsX8_reads := by decide +kernel
  have L113 : Cond.fieldLink RX8 113 (TX8 8).1 (TX8 8).2.1 (TX8 8).2.2.1 ∈ wsX8_reads := by decide +kernel
  have L116 : Cond.fieldLink RX8 116 (TX8 13).1 (TX8 13).2.1 (TX8 13).2.2.1 ∈ wsX8_reads := by decide +kernel
  induction fu with
  | zero =>
    intro ω hti hfuel rv G2 e1 e2
    have hf1 := hti.1.2
    have hf2 := hti.2.1.2
    exact absurd hfuel (by omega)
  | succ fu ih =>
    intro ω hti hfuel rv G2 e1 e2
    have hf1 := hti.1.2
    have hf2 := hti.2.1.2
    refine g_aload_n C dX8_reads_19 rfl 0 rfl ?_
    refine g_get (v := .int (bb (ω 120 13))) C iX8 (by decide) (mk_11 (by decide)) rfl 13 (by decide) L116 rfl dX8_reads_20 ?_
    refine g_if_eq (tgt := 60) C dX8_reads_23 (by decide) (fun h1 => ?_) (fun h1 => ?_)
    · refine g_aload_n C dX8_reads_60 rfl 0 rfl ?_
      refine g_get (v := .int (bb (ω 120 13))) C iX8 (by decide) (mk_11 (by decide)) rfl 13 (by decide) L116 rfl dX8_reads_61 ?_
      refine g_if_eq (tgt := 72) C dX8_reads_64 (by decide) (fun _ => ?_) (fun z => absurd h1 z)
      refine g_aload_n C dX8_reads_72 rfl 0 rfl ?_
      refine g_get (v := .int (ω 120 12)) C iX8 (by decide) (mk_11 (by decide)) rfl 12 (by decide) L110 rfl dX8_reads_73 ?_
      exact g_iret C hret hlk (e1.trans (pr1 (v := (ω 120 12)) (w := ω) ((if_pos h1).trans rfl))) (e2.trans (pr2 (v := (ω 120 12)) (w := ω) ((if_pos h1).trans rfl))) dX8_reads_76
    · refine g_aload_n C dX8_reads_26 rfl 0 rfl ?_
      refine g_get (v := .int (ω 120 12)) C iX8 (by decide) (mk_11 (by decide)) rfl 12 (by decide) L110 rfl dX8_reads_27 ?_
      refine g_aload_n C dX8_reads_30 rfl 0 rfl ?_
      refine g_get (v := .int (ω 120 8)) C iX8 (by decide) (mk_11 (by decide)) rfl 8 (by decide) L113 rfl dX8_reads_31 ?_
      have hz2 : (ω 120 8).toNatClampNeg ≤ _ := (hti.2.1).2
      refine gv_eqS (st' := [.int (nI ((ω 120 8).toNatClampNeg)), .int (ω 120 12)]) (congrArg (fun z : Int32 => ([Value.int z, .int (ω 120 12)] : List Value)) (hti.2.1).1) ?_
      have hz3 : (ω 120 12).toNatClampNeg ≤ _ := (hti.1).2
      refine gv_eqS (st' := [.int (nI ((ω 120 8).toNatClampNeg)), .int (nI ((ω 120 12).toNatClampNeg))]) (congrArg (fun z : Int32 => ([.int (nI ((ω 120 8).toNatClampNeg)), Value.int z] : List Value)) (hti.1).1) ?_
      refine g_icmp_ge (tgt := 60) C dX8_reads_34 (by decide) (fun h4 => ?_) (fun h4 => ?_)
      · have h4n := (nI_leI (a := (ω 120 8).toNatClampNeg) (b := (ω 120 12).toNatClampNeg) (by omega) (by omega)).mp h4
        refine g_aload_n C dX8_reads_60 rfl 0 rfl ?_
        refine g_get (v := .int (bb (ω 120 13))) C iX8 (by decide) (mk_11 (by decide)) rfl 13 (by decide) L116 rfl dX8_reads_61 ?_
        refine g_if_eq (tgt := 72) C dX8_reads_64 (by decide) (fun z => absurd z h1) (fun _ => ?_)
        refine g_bipush (v := (-5)) C dX8_reads_67 (by decide) ?_
        refine g_goto (tgt := 76) C dX8_reads_69 (by decide) ?_
        exact g_iret C hret hlk (e1.trans (pr1 (v := (-5)) (w := ω) ((if_neg h1).trans ((if_pos h4n).trans rfl)))) (e2.trans (pr2 (v := (-5)) (w := ω) ((if_neg h1).trans ((if_pos h4n).trans rfl)))) dX8_reads_76
      · have h4n := (not_congr (nI_leI (a := (ω 120 8).toNatClampNeg) (b := (ω 120 12).toNatClampNeg) (by omega) (by omega))).mp h4
        refine g_aload_n C dX8_reads_37 rfl 0 rfl ?_
        refine g_bipush (v := 44) C dX8_reads_38 (by decide) ?_
        refine g_bipush (v := 44) C dX8_reads_40 (by decide) ?_
        refine g_callV (rest := []) (st1 := [.int (f_X8_takes 44 44 ω).1]) C (c_X8_takes 44 44 ω hti) (cwV 2 C.hts gX8_reads_X8_takes rfl rfl rfl md_X8_takes ⟨Nat.le_of_ble_eq_true rfl, Nat.le_of_ble_eq_true rfl⟩) (by decide) (mk_11 (by decide)) rfl rfl rfl rfl rfl (Nat.le_of_ble_eq_true rfl) dX8_reads_42 (Nat.zero_le _) (Nat.zero_le _) ?_
        refine g_pop C dX8_reads_45 rfl ?_
        refine g_aload_n C dX8_reads_46 rfl 0 rfl ?_
        refine g_get (v := .int (bb ((f_X8_takes 44 44 ω).2 120 13))) C iX8 (by decide) (mk_11 (by decide)) rfl 13 (by decide) L116 rfl dX8_reads_47 ?_
        refine g_if_eq (tgt := 19) C dX8_reads_50 (by decide) (fun h5 => ?_) (fun h5 => ?_)
        · exact ih  (f_X8_takes 44 44 ω).2 (takes_TI (by decide) hti) (Or.inl ⟨h5, (by have := hfuel.resolve_left (fun z => absurd z.1 h1); omega)⟩) _ _ (e1.trans (congrArg (fun z : Int32 × Mem => some (Value.int z.1)) ((if_neg h1).trans ((if_neg h4n).trans ((if_pos h5).trans rfl))))) (e2.trans (congrArg (fun z : Int32 × Mem => mk X ad z.2) ((if_neg h1).trans ((if_neg h4n).trans ((if_pos h5).trans rfl)))))
        · refine g_aload_n C dX8_reads_53 rfl 0 rfl ?_
          refine g_callV (rest := []) (st1 := []) C (c_X8_readsEntry (f_X8_takes 44 44 ω).2 (takes_TI (by decide) hti)) (cwV 0 C.hts gX8_reads_X8_readsEntry rfl rfl rfl md_X8_readsEntry ⟨Nat.le_of_ble_eq_true rfl, Nat.le_of_ble_eq_true rfl⟩) (by decide) (mk_11 (by decide)) rfl rfl rfl rfl rfl (Nat.le_of_ble_eq_true rfl) dX8_reads_54 (Nat.zero_le _) (Nat.zero_le _) ?_
          refine g_goto (tgt := 19) C dX8_reads_57 (by decide) ?_
          exact ih  (f_X8_readsEntry (f_X8_takes 44 44 ω).2) (readsEntry_all (takes_TI (by decide) hti)).1 (Or.inr (by have q1 := (takes_TS (a := 44) (b := 44) (by decide) hti.ts).2.2 h5; have q2 := (readsEntry_all (takes_TI (a := 44) (b := 44) (by decide) hti)).2.1; have q3 := hfuel.resolve_left (fun z => absurd z.1 h1); omega)) _ _ (e1.trans (congrArg (fun z : Int32 × Mem => some (Value.int z.1)) ((if_neg h1).trans ((if_neg h4n).trans ((if_neg h5).trans rfl))))) (e2.trans (congrArg (fun z : Int32 × Mem => mk X ad z.2) ((if_neg h1).trans ((if_neg h4n).trans ((if_neg h5).trans rfl)))))
def f_X8_reads  (ω : Mem) : Int32 × Mem := (f_X8_reads_19 62 (f_X8_readsEntry (st (st (st ω 120 12 0) 120 13 1) 120 11 0)))
set_option maxRecDepth 100000 in
set_option maxHeartbeats 4000000 in
theorem c_X8_reads {l_ : Launch} {sa : Nat → Nat} {D : va_G} {X : Nat → ClassId} {ad : Nat → Nat}  (ω : Mem) (hlen : rg (ω 120 8) 60) : CT l_ yX8_reads wsX8_reads rm_X8_reads sa D (tyX X) 128 ad (mk X ad ω) [.ref (ad 120)] (some (.int (f_X8_reads ω).1) : Option Value) (mk X ad (f_X8_reads ω).2) := by
  refine ct_of [(0, .ref (ad 120))] (by decide +kernel) rfl rfl (Nat.le_of_ble_eq_true rfl) rfl ?_
  intro p_ e_ s_ m_ args_ below_ meth_ c_ C hret hlk hin
  have e1 : (some (.int (f_X8_reads ω).1) : Option Value) = (some (.int (f_X8_reads ω).1) : Option Value) := rfl
  have e2 : mk X ad (f_X8_reads ω).2 = mk X ad (f_X8_reads ω).2 := rfl
  have iX8 : ∀ w ∈ u_ws RX8 TX8 14, w ∈ wsX8_reads := by decide +kernel
  have L110 : Cond.fieldLink RX8 110 (TX8 12).1 (TX8 12).2.1 (TX8 12).2.2.1 ∈ wsX8_reads := by decide +kernel
  have L116 : Cond.fieldLink RX8 116 (TX8 13).1 (TX8 13).2.1 (TX8 13).2.2.1 ∈ wsX8_reads := by decide +kernel
  have L127 : Cond.fieldLink RX8 127 (TX8 11).1 (TX8 11).2.1 (TX8 11).2.2.1 ∈ wsX8_reads := by decide +kernel
  refine g_aload_n C dX8_reads_0 rfl 0 rfl ?_
  refine g_iconst (v := 0) C dX8_reads_1 (by decide) ?_
  refine g_put C iX8 tyX8 tyX8_ok nmX8 (by decide) (mk_11 (by decide)) rfl 12 (by decide) L110 rfl rfl rfl (Nat.le_of_ble_eq_true rfl) dX8_reads_2 ?_
  refine gv_eqG (mkp_11_12 (by decide)) ?_
  refine g_aload_n C dX8_reads_5 rfl 0 rfl ?_
  refine g_iconst (v := 1) C dX8_reads_6 (by decide) ?_
  refine g_put C iX8 tyX8 tyX8_ok nmX8 (by decide) (mk_11 (by decide)) rfl 13 (by decide) L116 rfl (nar_b (by decide)).1 (nar_b (by decide)).2 (Nat.le_of_ble_eq_true rfl) dX8_reads_7 ?_
  refine gv_eqG (mkp_11_13 (by decide) (by decide)) ?_
  refine g_aload_n C dX8_reads_10 rfl 0 rfl ?_
  refine g_iconst (v := 0) C dX8_reads_11 (by decide) ?_
  refine g_put C iX8 tyX8 tyX8_ok nmX8 (by decide) (mk_11 (by decide)) rfl 11 (by decide) L127 rfl rfl rfl (Nat.le_of_ble_eq_true rfl) dX8_reads_12 ?_
  refine gv_eqG (mkp_11_11 (by decide)) ?_
  refine g_aload_n C dX8_reads_15 rfl 0 rfl ?_
  refine g_callV (rest := []) (st1 := []) C (c_X8_readsEntry (st (st (st ω 120 12 0) 120 13 1) 120 11 0) (TI_0 hlen)) (cwV 0 C.hts gX8_reads_X8_readsEntry rfl rfl rfl md_X8_readsEntry ⟨Nat.le_of_ble_eq_true rfl, Nat.le_of_ble_eq_true rfl⟩) (by decide) (mk_11 (by decide)) rfl rfl rfl rfl rfl (Nat.le_of_ble_eq_true rfl) dX8_reads_16 (Nat.zero_le _) (Nat.zero_le _) ?_
  exact k_X8_reads_19 (62)   C hret hlk  (f_X8_readsEntry (st (st (st ω 120 12 0) 120 13 1) 120 11 0)) (readsEntry_all (TI_0 hlen)).1 (Or.inr (Nat.lt_of_lt_of_le (by decide : 60 < 62) (Nat.le_add_left _ _))) _ _ (e1.trans (congrArg (fun z : Int32 × Mem => some (Value.int z.1)) rfl)) (e2.trans (congrArg (fun z : Int32 × Mem => mk X ad z.2) rfl))
theorem rd19 : ∀ (fu : Nat) (ω : Mem), TI ω → (bb (ω 120 13) = 0 ∧ 0 < fu ∨ 60 < (ω 120 12).toNatClampNeg + fu) → TI (f_X8_reads_19 fu ω).2 ∧ FT ω (f_X8_reads_19 fu ω).2 := by
  intro fu
  induction fu with
  | zero =>
    intro ω h hf
    have := h.1.2
    omega
  | succ fu ih =>
    intro ω hti hfuel
    unfold f_X8_reads_19
    by_cases h1 : bb (ω 120 13) = 0
    · rw [if_pos h1]
      first
        | exact ⟨hti, FT.rf⟩
        | (split <;> exact ⟨hti, FT.rf⟩)
    · rw [if_neg h1]
      have q3 := hfuel.resolve_left (fun z => absurd z.1 h1)
      by_cases h2 : (ω 120 8).toNatClampNeg ≤ (ω 120 12).toNatClampNeg
      · rw [if_pos h2]
        first
          | exact ⟨hti, FT.rf⟩
          | (split <;> exact ⟨hti, FT.rf⟩)
      · rw [if_neg h2]
        have h60 := hti.2.1.2
        have b1 := takes_TS (a := 44) (b := 44) (by decide) hti.ts
        by_cases h3 : bb ((f_X8_takes 44 44 ω).2 120 13) = 0
        · rw [if_pos h3]
          have a := ih _ b1.1.1 (Or.inl ⟨h3, by omega⟩)
          exact ⟨a.1, (takes_FT _ _ _).tr a.2⟩
        · rw [if_neg h3]
          have b2 := readsEntry_all b1.1.1
          have b3 := b1.2.2 h3
          have a := ih _ b2.1 (Or.inr (by have := b2.2.1; omega))
          exact ⟨a.1, ((takes_FT _ _ _).tr b2.2.2).tr a.2⟩
theorem reads_all {ω : Mem} (h : rg (ω 120 8) 60) : TI (f_X8_reads ω).2 ∧ FT ω (f_X8_reads ω).2 := by
  unfold f_X8_reads
  have a := readsEntry_all (TI_0 h)
  have b := rd19 62 _ a.1 (Or.inr (by omega))
  exact ⟨b.1, ((((FT.s (by omega)).tr (FT.s (by omega))).tr (FT.s (by omega))).tr a.2.2).tr b.2⟩
theorem reads_MI {ω : Mem} (h : rg (ω 120 8) 60) (hmi : MIn 10 ω) : MIn 10 (f_X8_reads ω).2 := by
  obtain ⟨-, f1, f2⟩ := reads_all h
  have e : (f_X8_reads ω).2 121 = ω 121 := f1 121 (by decide) (by decide) (by decide)
  exact ⟨by rw [e]; exact hmi.1, by rw [e]; exact hmi.2.1, by rw [f2 4 (by decide) (by decide) (by decide)]; exact hmi.2.2⟩
abbrev rm_X8_unlikeTicks : Room := { frames := 0, cells := 0, slots := 0, locals := 0 }
theorem md_X8_unlikeTicks : yX8_unlikeTicks.cls = RX8 ∧ yX8_unlikeTicks.cls ≠ "java/lang/invoke/MethodHandle" ∧ yX8_unlikeTicks.cls ≠ "java/lang/invoke/VarHandle" ∧ (parseMethodDescriptor yX8_unlikeTicks.desc).map (fun d => d.parameters.length) = some 0 := by decide +kernel
def f_X8_unlikeTicks_17 : Nat → Int32 → Nat → Int32 → Nat → Mem → Int32
  | 0, _, _, _, _, _ => 0
  | fu + 1, n, k, w, e, ω => (if k ≤ e then (if w = 0 then (if (ω 120 11).toNatClampNeg ≤ k + 1 then (n + 0) else (f_X8_unlikeTicks_17 fu (n + 0) (k + 1) 1 0 ω)) else (if (ω 120 11).toNatClampNeg ≤ k + 1 then (n + 1) else (f_X8_unlikeTicks_17 fu (n + 1) (k + 1) 1 0 ω))) else (if w = 0 then (f_X8_unlikeTicks_17 fu n k 0 (e + 1) ω) else (if (ω 126 e) = (ω 126 k) then (f_X8_unlikeTicks_17 fu n k 0 (e + 1) ω) else (f_X8_unlikeTicks_17 fu n k 1 (e + 1) ω))))
set_option maxRecDepth 100000 in
set_option maxHeartbeats 4000000 in
theorem k_X8_unlikeTicks_17 {l_ : Launch} {p_ : Program} {e_ : Env} {s_ : State} {m_ : MethodId} {args_ : Array Value} {below_ : List Frame} {meth_ : Method} {c_ : Code} {sa : Nat → Nat} {D : va_G} {X : Nat → ClassId} {ad : Nat → Nat} {G0 : Nat → va_E} (fu : Nat)  (C : GC p_ rm_X8_unlikeTicks s_ m_ args_ meth_ c_ cX8_unlikeTicks 5 wsX8_unlikeTicks RX8 sa D (tyX X) (va_A (gw 128 ad G0) s_.heap.size)) (hret : meth_.sig.returnType = (some .int)) (hlk : meth_.locks = false) : ∀ (n : Int32) (k : Nat) (w : Int32) (e : Nat) (ω : Mem) (hrm : rg (ω 120 11) 20) (hk : k < (ω 120 11).toNatClampNeg) (he : e ≤ k) (hfuel : 703 < 32 * k + e + fu) (rv : Option Value) (G2 : Nat → va_E) (e1 : rv = some (.int (f_X8_unlikeTicks_17 fu n k w e ω))) (e2 : G2 = mk X ad ω), GV p_ l_ e_ rm_X8_unlikeTicks s_ m_ args_ below_ meth_ c_ 0 0 (CQ below_ args_ s_ D 128 ad G0 rv G2) D (va_A (gw 128 ad G0) s_.heap.size) 5 128 ad (mk X ad ω) [(0, .ref (ad 120)), (1, .int n), (2, .int (nI (k))), (3, .int w), (4, .int (nI (e)))] 17 [] := by
  have iX8 : ∀ w ∈ u_ws RX8 TX8 14, w ∈ wsX8_unlikeTicks := by decide +kernel
  have L127 : Cond.fieldLink RX8 127 (TX8 11).1 (TX8 11).2.1 (TX8 11).2.2.1 ∈ wsX8_unlikeTicks := by decide +kernel
  have L25 : Cond.fieldLink RX8 25 (TX8 9).1 (TX8 9).2.1 (TX8 9).2.2.1 ∈ wsX8_unlikeTicks := by decide +kernel
  induction fu with
  | zero =>
    intro n k w e ω hrm hk he hfuel rv G2 e1 e2
    have hf1 := hrm.2
    exact absurd hfuel (by omega)
  | succ fu ih =>
    intro n k w e ω hrm hk he hfuel rv G2 e1 e2
    have hf1 := hrm.2
    refine g_iload C dX8_unlikeTicks_17 4 rfl ?_
    refine g_iload_n C dX8_unlikeTicks_19 rfl 2 rfl ?_
    refine g_icmp_ge (tgt := 55) C dX8_unlikeTicks_20 (by decide) (fun h1 => ?_) (fun h1 => ?_)
    · have h1n := (nI_leI (a := k) (b := e) (by omega) (by omega)).mp h1
      refine g_iload_n C dX8_unlikeTicks_55 rfl 1 rfl ?_
      refine g_iload_n C dX8_unlikeTicks_56 rfl 3 rfl ?_
      refine g_if_eq (tgt := 64) C dX8_unlikeTicks_57 (by decide) (fun h2 => ?_) (fun h2 => ?_)
      · refine g_iconst (v := 0) C dX8_unlikeTicks_64 (by decide) ?_
        refine g_iadd (v := (n + 0)) C dX8_unlikeTicks_65 rfl ?_
        refine g_istore_n (lv' := [(1, .int (n + 0)), (0, .ref (ad 120)), (2, .int (nI (k))), (3, .int w), (4, .int (nI (e)))]) C dX8_unlikeTicks_66 rfl (by decide) rfl ?_
        refine g_iinc (k := 2) (v := (nI (k + 1))) (lv' := [(2, .int (nI (k + 1))), (1, .int (n + 0)), (0, .ref (ad 120)), (3, .int w), (4, .int (nI (e)))]) C dX8_unlikeTicks_67 rfl (nI_1 (k)) (by decide) rfl ?_
        refine g_goto (tgt := 4) C dX8_unlikeTicks_70 (by decide) ?_
        refine g_iload_n C dX8_unlikeTicks_4 rfl 0 rfl ?_
        refine g_aload_n C dX8_unlikeTicks_5 rfl 2 rfl ?_
        refine g_get (v := .int (ω 120 11)) C iX8 (by decide) (mk_11 (by decide)) rfl 11 (by decide) L127 rfl dX8_unlikeTicks_6 ?_
        have hz3 : (ω 120 11).toNatClampNeg ≤ _ := (hrm).2
        refine gv_eqS (st' := [.int (nI ((ω 120 11).toNatClampNeg)), .int (nI (k + 1))]) (congrArg (fun z : Int32 => ([Value.int z, .int (nI (k + 1))] : List Value)) (hrm).1) ?_
        refine g_icmp_ge (tgt := 73) C dX8_unlikeTicks_9 (by decide) (fun h4 => ?_) (fun h4 => ?_)
        · have h4n := (nI_leI (a := (ω 120 11).toNatClampNeg) (b := k + 1) (by omega) (by omega)).mp h4
          refine g_iload_n C dX8_unlikeTicks_73 rfl 1 rfl ?_
          exact g_iret C hret hlk (e1.trans (congrArg (fun z => some (Value.int z)) ((if_pos h1n).trans ((if_pos h2).trans ((if_pos h4n).trans rfl))))) e2 dX8_unlikeTicks_74
        · have h4n := (not_congr (nI_leI (a := (ω 120 11).toNatClampNeg) (b := k + 1) (by omega) (by omega))).mp h4
          refine g_iconst (v := 1) C dX8_unlikeTicks_12 (by decide) ?_
          refine g_istore_n (lv' := [(3, .int 1), (2, .int (nI (k + 1))), (1, .int (n + 0)), (0, .ref (ad 120)), (4, .int (nI (e)))]) C dX8_unlikeTicks_13 rfl (by decide) rfl ?_
          refine g_iconst (v := 0) C dX8_unlikeTicks_14 (by decide) ?_
          refine g_istore (lv' := [(4, .int 0), (3, .int 1), (2, .int (nI (k + 1))), (1, .int (n + 0)), (0, .ref (ad 120))]) C dX8_unlikeTicks_15 (by decide) rfl ?_
          refine gv_lv (lv' := [(0, .ref (ad 120)), (1, .int (n + 0)), (2, .int (nI (k + 1))), (3, .int 1), (4, .int 0)]) [4, 3, 2, 1, 0] rfl ?_
          exact ih (n + 0) (k + 1) 1 0 ω hrm (by omega) (by omega) (by have := hrm.2; omega) _ _ (e1.trans (congrArg (fun z => some (Value.int z)) ((if_pos h1n).trans ((if_pos h2).trans ((if_neg h4n).trans rfl))))) e2
      · refine g_iconst (v := 1) C dX8_unlikeTicks_60 (by decide) ?_
        refine g_goto (tgt := 65) C dX8_unlikeTicks_61 (by decide) ?_
        refine g_iadd (v := (n + 1)) C dX8_unlikeTicks_65 rfl ?_
        refine g_istore_n (lv' := [(1, .int (n + 1)), (0, .ref (ad 120)), (2, .int (nI (k))), (3, .int w), (4, .int (nI (e)))]) C dX8_unlikeTicks_66 rfl (by decide) rfl ?_
        refine g_iinc (k := 2) (v := (nI (k + 1))) (lv' := [(2, .int (nI (k + 1))), (1, .int (n + 1)), (0, .ref (ad 120)), (3, .int w), (4, .int (nI (e)))]) C dX8_unlikeTicks_67 rfl (nI_1 (k)) (by decide) rfl ?_
        refine g_goto (tgt := 4) C dX8_unlikeTicks_70 (by decide) ?_
        refine g_iload_n C dX8_unlikeTicks_4 rfl 0 rfl ?_
        refine g_aload_n C dX8_unlikeTicks_5 rfl 2 rfl ?_
        refine g_get (v := .int (ω 120 11)) C iX8 (by decide) (mk_11 (by decide)) rfl 11 (by decide) L127 rfl dX8_unlikeTicks_6 ?_
        have hz5 : (ω 120 11).toNatClampNeg ≤ _ := (hrm).2
        refine gv_eqS (st' := [.int (nI ((ω 120 11).toNatClampNeg)), .int (nI (k + 1))]) (congrArg (fun z : Int32 => ([Value.int z, .int (nI (k + 1))] : List Value)) (hrm).1) ?_
        refine g_icmp_ge (tgt := 73) C dX8_unlikeTicks_9 (by decide) (fun h6 => ?_) (fun h6 => ?_)
        · have h6n := (nI_leI (a := (ω 120 11).toNatClampNeg) (b := k + 1) (by omega) (by omega)).mp h6
          refine g_iload_n C dX8_unlikeTicks_73 rfl 1 rfl ?_
          exact g_iret C hret hlk (e1.trans (congrArg (fun z => some (Value.int z)) ((if_pos h1n).trans ((if_neg h2).trans ((if_pos h6n).trans rfl))))) e2 dX8_unlikeTicks_74
        · have h6n := (not_congr (nI_leI (a := (ω 120 11).toNatClampNeg) (b := k + 1) (by omega) (by omega))).mp h6
          refine g_iconst (v := 1) C dX8_unlikeTicks_12 (by decide) ?_
          refine g_istore_n (lv' := [(3, .int 1), (2, .int (nI (k + 1))), (1, .int (n + 1)), (0, .ref (ad 120)), (4, .int (nI (e)))]) C dX8_unlikeTicks_13 rfl (by decide) rfl ?_
          refine g_iconst (v := 0) C dX8_unlikeTicks_14 (by decide) ?_
          refine g_istore (lv' := [(4, .int 0), (3, .int 1), (2, .int (nI (k + 1))), (1, .int (n + 1)), (0, .ref (ad 120))]) C dX8_unlikeTicks_15 (by decide) rfl ?_
          refine gv_lv (lv' := [(0, .ref (ad 120)), (1, .int (n + 1)), (2, .int (nI (k + 1))), (3, .int 1), (4, .int 0)]) [4, 3, 2, 1, 0] rfl ?_
          exact ih (n + 1) (k + 1) 1 0 ω hrm (by omega) (by omega) (by have := hrm.2; omega) _ _ (e1.trans (congrArg (fun z => some (Value.int z)) ((if_pos h1n).trans ((if_neg h2).trans ((if_neg h6n).trans rfl))))) e2
    · have h1n := (not_congr (nI_leI (a := k) (b := e) (by omega) (by omega))).mp h1
      refine g_iload_n C dX8_unlikeTicks_23 rfl 3 rfl ?_
      refine g_if_eq (tgt := 47) C dX8_unlikeTicks_24 (by decide) (fun h7 => ?_) (fun h7 => ?_)
      · refine g_iconst (v := 0) C dX8_unlikeTicks_47 (by decide) ?_
        refine g_istore_n (lv' := [(3, .int 0), (0, .ref (ad 120)), (1, .int n), (2, .int (nI (k))), (4, .int (nI (e)))]) C dX8_unlikeTicks_48 rfl (by decide) rfl ?_
        refine g_iinc (k := 4) (v := (nI (e + 1))) (lv' := [(4, .int (nI (e + 1))), (3, .int 0), (0, .ref (ad 120)), (1, .int n), (2, .int (nI (k)))]) C dX8_unlikeTicks_49 rfl (nI_1 (e)) (by decide) rfl ?_
        refine g_goto (tgt := 17) C dX8_unlikeTicks_52 (by decide) ?_
        refine gv_lv (lv' := [(0, .ref (ad 120)), (1, .int n), (2, .int (nI (k))), (3, .int 0), (4, .int (nI (e + 1)))]) [2, 3, 4, 1, 0] rfl ?_
        exact ih n k 0 (e + 1) ω hrm (by omega) (by omega) (by have := hrm.2; omega) _ _ (e1.trans (congrArg (fun z => some (Value.int z)) ((if_neg h1n).trans ((if_pos h7).trans rfl)))) e2
      · refine g_aload_n C dX8_unlikeTicks_27 rfl 0 rfl ?_
        refine g_get (v := .ref (ad 126)) C iX8 (by decide) (mk_11 (by decide)) rfl 9 (by decide) L25 rfl dX8_unlikeTicks_28 ?_
        have hz9 := hrm.2
        refine g_iload C dX8_unlikeTicks_31 4 rfl ?_
        refine g_iald (k := e) C 0 (by decide) (mk_12n (N := 32) (by decide) (by decide)) rfl (vp_in_nI (n := e) (by omega) (by decide)) (nI_clamp (n := e) (by omega)) dX8_unlikeTicks_33 ?_
        refine g_aload_n C dX8_unlikeTicks_34 rfl 0 rfl ?_
        refine g_get (v := .ref (ad 126)) C iX8 (by decide) (mk_11 (by decide)) rfl 9 (by decide) L25 rfl dX8_unlikeTicks_35 ?_
        refine g_iload_n C dX8_unlikeTicks_38 rfl 2 rfl ?_
        refine g_iald (k := k) C 0 (by decide) (mk_12n (N := 32) (by decide) (by decide)) rfl (vp_in_nI (n := k) (by omega) (by decide)) (nI_clamp (n := k) (by omega)) dX8_unlikeTicks_39 ?_
        refine g_icmp_eq (tgt := 47) C dX8_unlikeTicks_40 (by decide) (fun h8 => ?_) (fun h8 => ?_)
        · refine g_iconst (v := 0) C dX8_unlikeTicks_47 (by decide) ?_
          refine g_istore_n (lv' := [(3, .int 0), (0, .ref (ad 120)), (1, .int n), (2, .int (nI (k))), (4, .int (nI (e)))]) C dX8_unlikeTicks_48 rfl (by decide) rfl ?_
          refine g_iinc (k := 4) (v := (nI (e + 1))) (lv' := [(4, .int (nI (e + 1))), (3, .int 0), (0, .ref (ad 120)), (1, .int n), (2, .int (nI (k)))]) C dX8_unlikeTicks_49 rfl (nI_1 (e)) (by decide) rfl ?_
          refine g_goto (tgt := 17) C dX8_unlikeTicks_52 (by decide) ?_
          refine gv_lv (lv' := [(0, .ref (ad 120)), (1, .int n), (2, .int (nI (k))), (3, .int 0), (4, .int (nI (e + 1)))]) [2, 3, 4, 1, 0] rfl ?_
          exact ih n k 0 (e + 1) ω hrm (by omega) (by omega) (by have := hrm.2; omega) _ _ (e1.trans (congrArg (fun z => some (Value.int z)) ((if_neg h1n).trans ((if_neg h7).trans ((if_pos h8).trans rfl))))) e2
        · refine g_iconst (v := 1) C dX8_unlikeTicks_43 (by decide) ?_
          refine g_goto (tgt := 48) C dX8_unlikeTicks_44 (by decide) ?_
          refine g_istore_n (lv' := [(3, .int 1), (0, .ref (ad 120)), (1, .int n), (2, .int (nI (k))), (4, .int (nI (e)))]) C dX8_unlikeTicks_48 rfl (by decide) rfl ?_
          refine g_iinc (k := 4) (v := (nI (e + 1))) (lv' := [(4, .int (nI (e + 1))), (3, .int 1), (0, .ref (ad 120)), (1, .int n), (2, .int (nI (k)))]) C dX8_unlikeTicks_49 rfl (nI_1 (e)) (by decide) rfl ?_
          refine g_goto (tgt := 17) C dX8_unlikeTicks_52 (by decide) ?_
          refine gv_lv (lv' := [(0, .ref (ad 120)), (1, .int n), (2, .int (nI (k))), (3, .int 1), (4, .int (nI (e + 1)))]) [2, 3, 4, 1, 0] rfl ?_
          exact ih n k 1 (e + 1) ω hrm (by omega) (by omega) (by have := hrm.2; omega) _ _ (e1.trans (congrArg (fun z => some (Value.int z)) ((if_neg h1n).trans ((if_neg h7).trans ((if_neg h8).trans rfl))))) e2
def f_X8_unlikeTicks  (ω : Mem) : Int32 := (if (ω 120 11).toNatClampNeg ≤ 0 then 0 else (f_X8_unlikeTicks_17 704 0 0 1 0 ω))
set_option maxRecDepth 100000 in
set_option maxHeartbeats 4000000 in
theorem c_X8_unlikeTicks {l_ : Launch} {sa : Nat → Nat} {D : va_G} {X : Nat → ClassId} {ad : Nat → Nat}  (ω : Mem) (hrm : rg (ω 120 11) 20) : CT l_ yX8_unlikeTicks wsX8_unlikeTicks rm_X8_unlikeTicks sa D (tyX X) 128 ad (mk X ad ω) [.ref (ad 120)] (some (.int (f_X8_unlikeTicks ω)) : Option Value) (mk X ad ω) := by
  refine ct_of [(0, .ref (ad 120))] (by decide +kernel) rfl rfl (Nat.le_of_ble_eq_true rfl) rfl ?_
  intro p_ e_ s_ m_ args_ below_ meth_ c_ C hret hlk hin
  have e1 : (some (.int (f_X8_unlikeTicks ω)) : Option Value) = (some (.int (f_X8_unlikeTicks ω)) : Option Value) := rfl
  have e2 : mk X ad ω = mk X ad ω := rfl
  have iX8 : ∀ w ∈ u_ws RX8 TX8 14, w ∈ wsX8_unlikeTicks := by decide +kernel
  have L127 : Cond.fieldLink RX8 127 (TX8 11).1 (TX8 11).2.1 (TX8 11).2.2.1 ∈ wsX8_unlikeTicks := by decide +kernel
  refine g_iconst (v := 0) C dX8_unlikeTicks_0 (by decide) ?_
  refine g_istore_n (lv' := [(1, .int 0), (0, .ref (ad 120))]) C dX8_unlikeTicks_1 rfl (by decide) rfl ?_
  refine g_iconst (v := 0) C dX8_unlikeTicks_2 (by decide) ?_
  refine g_istore_n (lv' := [(2, .int 0), (1, .int 0), (0, .ref (ad 120))]) C dX8_unlikeTicks_3 rfl (by decide) rfl ?_
  refine g_iload_n C dX8_unlikeTicks_4 rfl 0 rfl ?_
  refine g_aload_n C dX8_unlikeTicks_5 rfl 2 rfl ?_
  refine g_get (v := .int (ω 120 11)) C iX8 (by decide) (mk_11 (by decide)) rfl 11 (by decide) L127 rfl dX8_unlikeTicks_6 ?_
  have hz1 : (ω 120 11).toNatClampNeg ≤ _ := (hrm).2
  refine gv_eqS (st' := [.int (nI ((ω 120 11).toNatClampNeg)), .int 0]) (congrArg (fun z : Int32 => ([Value.int z, .int 0] : List Value)) (hrm).1) ?_
  refine g_icmp_ge (tgt := 73) C dX8_unlikeTicks_9 (by decide) (fun h2 => ?_) (fun h2 => ?_)
  · have h2n := (nI_leI (a := (ω 120 11).toNatClampNeg) (b := 0) (by omega) (by omega)).mp h2
    refine g_iload_n C dX8_unlikeTicks_73 rfl 1 rfl ?_
    exact g_iret C hret hlk (e1.trans (congrArg (fun z => some (Value.int z)) ((if_pos h2n).trans rfl))) e2 dX8_unlikeTicks_74
  · have h2n := (not_congr (nI_leI (a := (ω 120 11).toNatClampNeg) (b := 0) (by omega) (by omega))).mp h2
    refine g_iconst (v := 1) C dX8_unlikeTicks_12 (by decide) ?_
    refine g_istore_n (lv' := [(3, .int 1), (2, .int 0), (1, .int 0), (0, .ref (ad 120))]) C dX8_unlikeTicks_13 rfl (by decide) rfl ?_
    refine g_iconst (v := 0) C dX8_unlikeTicks_14 (by decide) ?_
    refine g_istore (lv' := [(4, .int 0), (3, .int 1), (2, .int 0), (1, .int 0), (0, .ref (ad 120))]) C dX8_unlikeTicks_15 (by decide) rfl ?_
    refine gv_lv (lv' := [(0, .ref (ad 120)), (1, .int 0), (2, .int 0), (3, .int 1), (4, .int 0)]) [4, 3, 2, 1, 0] rfl ?_
    exact k_X8_unlikeTicks_17 (704)   C hret hlk 0 0 1 0 ω hrm (by omega) (by omega) (by have := hrm.2; omega) _ _ (e1.trans (congrArg (fun z => some (Value.int z)) ((if_neg h2n).trans rfl))) e2
theorem rec50_121 : ∀ (fu j : Nat) (ω : Mem), (f_X8_records_50 fu j ω) 121 = ω 121 := by
  intro fu
  induction fu with
  | zero => intro j ω; rfl
  | succ fu ih =>
    intro j ω
    unfold f_X8_records_50
    split
    · rfl
    · rw [ih]
      rfl
theorem rec10_121 : ∀ (fu j : Nat) (ω : Mem), (f_X8_records_10 fu j ω) 121 = ω 121 := by
  intro fu
  induction fu with
  | zero => intro j ω; rfl
  | succ fu ih =>
    intro j ω
    unfold f_X8_records_10
    split
    · rw [rec50_121]
      rfl
    · rw [ih]
      rfl
theorem records_121 (ω : Mem) : (f_X8_records ω) 121 = ω 121 := by
  unfold f_X8_records
  split
  · exact rec10_121 _ _ _
  · exact rec50_121 _ _ _
theorem entry2_congr : ∀ (fu : Nat) (t : Int32) (j : Nat) (ω ω' : Mem), ω' 121 = ω 121 → f_X8_entryAt_2 fu t j ω' = f_X8_entryAt_2 fu t j ω := by
  intro fu
  induction fu with
  | zero => intro t j ω ω' h; rfl
  | succ fu ih =>
    intro t j ω ω' h
    unfold f_X8_entryAt_2
    rw [h, ih t (j + 1) ω ω' h]
theorem entryAt_congr {t : Int32} {ω ω' : Mem} (h : ω' 121 = ω 121) : f_X8_entryAt t ω' = f_X8_entryAt t ω := entry2_congr 13 t 0 ω ω' h
theorem hnew_rec {t : Int32} {ω : Mem} (h : f_X8_entryAt t ω = -5 → (ω 121 43).toNatClampNeg ≤ 11) : f_X8_entryAt t (f_X8_records ω) = -5 → ((f_X8_records ω) 121 43).toNatClampNeg ≤ 11 := by
  rw [entryAt_congr (records_121 ω), records_121]
  exact h
abbrev rm_X8_plan : Room := { frames := 2, cells := 0, slots := 0, locals := 45 }
theorem md_X8_plan : yX8_plan.cls = RX8 ∧ yX8_plan.cls ≠ "java/lang/invoke/MethodHandle" ∧ yX8_plan.cls ≠ "java/lang/invoke/VarHandle" ∧ (parseMethodDescriptor yX8_plan.desc).map (fun d => d.parameters.length) = some 2 := by decide +kernel
def f_X8_plan_82 (t : Int32) (d : Int32) (ω : Mem) : Int32 × Mem := (((f_X8_plans t d (f_X8_records ω)) 121 43), (f_X8_plans t d (f_X8_records ω)))
set_option maxRecDepth 100000 in
set_option maxHeartbeats 4000000 in
theorem k_X8_plan_82 {l_ : Launch} {p_ : Program} {e_ : Env} {s_ : State} {m_ : MethodId} {args_ : Array Value} {below_ : List Frame} {meth_ : Method} {c_ : Code} {sa : Nat → Nat} {D : va_G} {X : Nat → ClassId} {ad : Nat → Nat} {G0 : Nat → va_E} (t : Int32) (d : Int32) (C : GC p_ rm_X8_plan s_ m_ args_ meth_ c_ cX8_plan 4 wsX8_plan RX8 sa D (tyX X) (va_A (gw 128 ad G0) s_.heap.size)) (hret : meth_.sig.returnType = (some .int)) (hlk : meth_.locks = false) : ∀  (ω : Mem) (hmi : MIn 10 ω) (hnew : f_X8_entryAt t ω = -5 → (ω 121 43).toNatClampNeg ≤ 11) (rv : Option Value) (G2 : Nat → va_E) (e1 : rv = some (.int (f_X8_plan_82 t d ω).1)) (e2 : G2 = mk X ad (f_X8_plan_82 t d ω).2), GV p_ l_ e_ rm_X8_plan s_ m_ args_ below_ meth_ c_ 0 0 (CQ below_ args_ s_ D 128 ad G0 rv G2) D (va_A (gw 128 ad G0) s_.heap.size) 4 128 ad (mk X ad ω) [(0, .ref (ad 120)), (1, .int t), (2, .int d)] 82 [] := by
  have iX8 : ∀ w ∈ u_ws RX8 TX8 14, w ∈ wsX8_plan := by decide +kernel
  have L7 : Cond.fieldLink RX8 7 (TX8 1).1 (TX8 1).2.1 (TX8 1).2.2.1 ∈ wsX8_plan := by decide +kernel
  intro ω hmi hnew rv G2 e1 e2
  refine g_aload_n C dX8_plan_82 rfl 0 rfl ?_
  refine g_callV (rest := []) (st1 := []) C (c_X8_records ω hmi) (cwV 0 C.hts gX8_plan_X8_records rfl rfl rfl md_X8_records ⟨Nat.le_of_ble_eq_true rfl, Nat.le_of_ble_eq_true rfl⟩) (by decide) (mk_11 (by decide)) rfl rfl rfl rfl rfl (Nat.le_of_ble_eq_true rfl) dX8_plan_83 (Nat.zero_le _) (Nat.zero_le _) ?_
  refine g_aload_n C dX8_plan_86 rfl 0 rfl ?_
  refine g_iload_n C dX8_plan_87 rfl 1 rfl ?_
  refine g_iload_n C dX8_plan_88 rfl 2 rfl ?_
  refine g_callV (rest := []) (st1 := []) C (c_X8_plans t d (f_X8_records ω) (mi_X8_records ω hmi) (hnew_rec hnew)) (cwV 2 C.hts gX8_plan_X8_plans rfl rfl rfl md_X8_plans ⟨Nat.le_of_ble_eq_true rfl, Nat.le_of_ble_eq_true rfl⟩) (by decide) (mk_11 (by decide)) rfl rfl rfl rfl rfl (Nat.le_of_ble_eq_true rfl) dX8_plan_89 (Nat.zero_le _) (Nat.zero_le _) ?_
  refine g_aload_n C dX8_plan_92 rfl 0 rfl ?_
  refine g_get (v := .ref (ad 121)) C iX8 (by decide) (mk_11 (by decide)) rfl 1 (by decide) L7 rfl dX8_plan_93 ?_
  refine g_bipush (v := 43) C dX8_plan_96 (by decide) ?_
  refine g_iald (k := 43) C 0 (by decide) (mk_12n (N := 108) (by decide) (by decide)) rfl (by unfold vp_in; decide) rfl dX8_plan_98 ?_
  exact g_iret C hret hlk (e1.trans (pr1 (v := ((f_X8_plans t d (f_X8_records ω)) 121 43)) (w := (f_X8_plans t d (f_X8_records ω))) rfl)) (e2.trans (pr2 (v := ((f_X8_plans t d (f_X8_records ω)) 121 43)) (w := (f_X8_plans t d (f_X8_records ω))) rfl)) dX8_plan_99
def f_X8_plan_5 (t : Int32) (d : Int32) (ω : Mem) : Int32 × Mem := (if (f_X8_in t 0 9999 ω) = 0 then ((-2), ω) else (if (f_X8_in d 0 9 ω) = 0 then ((-2), ω) else (if (f_X8_entryAt t ω) = (-5) then (if (ω 121 43) = 12 then ((-3), ω) else (f_X8_plan_82 t d ω)) else (if (ω 121 (44 + 2 * ((f_X8_entryAt t ω).toNatClampNeg) + 1)) = d then ((-5), ω) else (f_X8_plan_82 t d ω)))))
set_option maxRecDepth 100000 in
set_option maxHeartbeats 4000000 in
theorem k_X8_plan_5 {l_ : Launch} {p_ : Program} {e_ : Env} {s_ : State} {m_ : MethodId} {args_ : Array Value} {below_ : List Frame} {meth_ : Method} {c_ : Code} {sa : Nat → Nat} {D : va_G} {X : Nat → ClassId} {ad : Nat → Nat} {G0 : Nat → va_E} (t : Int32) (d : Int32) (C : GC p_ rm_X8_plan s_ m_ args_ meth_ c_ cX8_plan 4 wsX8_plan RX8 sa D (tyX X) (va_A (gw 128 ad G0) s_.heap.size)) (hret : meth_.sig.returnType = (some .int)) (hlk : meth_.locks = false) : ∀  (ω : Mem) (hmi : MIn 10 ω) (rv : Option Value) (G2 : Nat → va_E) (e1 : rv = some (.int (f_X8_plan_5 t d ω).1)) (e2 : G2 = mk X ad (f_X8_plan_5 t d ω).2), GV p_ l_ e_ rm_X8_plan s_ m_ args_ below_ meth_ c_ 0 0 (CQ below_ args_ s_ D 128 ad G0 rv G2) D (va_A (gw 128 ad G0) s_.heap.size) 4 128 ad (mk X ad ω) [(0, .ref (ad 120)), (1, .int t), (2, .int d)] 5 [] := by
  have iX8 : ∀ w ∈ u_ws RX8 TX8 14, w ∈ wsX8_plan := by decide +kernel
  have L7 : Cond.fieldLink RX8 7 (TX8 1).1 (TX8 1).2.1 (TX8 1).2.2.1 ∈ wsX8_plan := by decide +kernel
  intro ω hmi rv G2 e1 e2
  refine g_iload_n C dX8_plan_5 rfl 1 rfl ?_
  refine g_iconst (v := 0) C dX8_plan_6 (by decide) ?_
  refine g_sipush (v := 9999) C dX8_plan_7 (by decide) ?_
  refine g_callS (rest := []) (st1 := [.int (f_X8_in t 0 9999 ω)]) C (c_X8_in t 0 9999 ω) (va_cwS 3 C.hts gX8_plan_X8_in rfl rfl rfl md_X8_in.2 ⟨Nat.le_of_ble_eq_true rfl, Nat.le_of_ble_eq_true rfl⟩) rfl rfl rfl (Nat.le_of_ble_eq_true rfl) dX8_plan_10 (Nat.zero_le _) (Nat.zero_le _) ?_
  refine g_if_eq (tgt := 26) C dX8_plan_13 (by decide) (fun h1 => ?_) (fun h1 => ?_)
  · refine g_bipush (v := (-2)) C dX8_plan_26 (by decide) ?_
    exact g_iret C hret hlk (e1.trans (pr1 (v := (-2)) (w := ω) ((if_pos h1).trans rfl))) (e2.trans (pr2 (v := (-2)) (w := ω) ((if_pos h1).trans rfl))) dX8_plan_28
  · refine g_iload_n C dX8_plan_16 rfl 2 rfl ?_
    refine g_iconst (v := 0) C dX8_plan_17 (by decide) ?_
    refine g_bipush (v := 9) C dX8_plan_18 (by decide) ?_
    refine g_callS (rest := []) (st1 := [.int (f_X8_in d 0 9 ω)]) C (c_X8_in d 0 9 ω) (va_cwS 3 C.hts gX8_plan_X8_in rfl rfl rfl md_X8_in.2 ⟨Nat.le_of_ble_eq_true rfl, Nat.le_of_ble_eq_true rfl⟩) rfl rfl rfl (Nat.le_of_ble_eq_true rfl) dX8_plan_20 (Nat.zero_le _) (Nat.zero_le _) ?_
    refine g_if_ne (tgt := 29) C dX8_plan_23 (by decide) (fun h2 => ?_) (fun h2 => ?_)
    · refine g_aload_n C dX8_plan_29 rfl 0 rfl ?_
      refine g_iload_n C dX8_plan_30 rfl 1 rfl ?_
      refine g_callV (rest := []) (st1 := [.int (f_X8_entryAt t ω)]) C (c_X8_entryAt t ω hmi) (cwV 1 C.hts gX8_plan_X8_entryAt rfl rfl rfl md_X8_entryAt ⟨Nat.le_of_ble_eq_true rfl, Nat.le_of_ble_eq_true rfl⟩) (by decide) (mk_11 (by decide)) rfl rfl rfl rfl rfl (Nat.le_of_ble_eq_true rfl) dX8_plan_31 (Nat.zero_le _) (Nat.zero_le _) ?_
      refine g_istore_n (lv' := [(3, .int (f_X8_entryAt t ω)), (0, .ref (ad 120)), (1, .int t), (2, .int d)]) C dX8_plan_34 rfl (by decide) rfl ?_
      refine g_iload_n C dX8_plan_35 rfl 0 rfl ?_
      refine g_bipush (v := (-5)) C dX8_plan_36 (by decide) ?_
      refine g_icmp_ne (tgt := 56) C dX8_plan_38 (by decide) (fun h3 => ?_) (fun h3 => ?_)
      · refine g_iload_n C dX8_plan_56 rfl 0 rfl ?_
        refine g_bipush (v := (-5)) C dX8_plan_57 (by decide) ?_
        refine g_icmp_eq (tgt := 82) C dX8_plan_59 (by decide) (fun z => absurd z h3) (fun _ => ?_)
        refine g_aload_n C dX8_plan_62 rfl 1 rfl ?_
        refine g_get (v := .ref (ad 121)) C iX8 (by decide) (mk_11 (by decide)) rfl 1 (by decide) L7 rfl dX8_plan_63 ?_
        refine g_bipush (v := 44) C dX8_plan_66 (by decide) ?_
        refine g_iconst (v := 2) C dX8_plan_68 (by decide) ?_
        refine g_iload_n C dX8_plan_69 rfl 0 rfl ?_
        have hz4 : (f_X8_entryAt t ω).toNatClampNeg ≤ _ := (entry_rg hmi.2.1 h3).2
        refine gv_eqS (st' := [.int (nI ((f_X8_entryAt t ω).toNatClampNeg)), .int 2, .int 44, .ref (ad 121)]) (congrArg (fun z : Int32 => ([Value.int z, .int 2, .int 44, .ref (ad 121)] : List Value)) (entry_rg hmi.2.1 h3).1) ?_
        refine g_imul (v := (nI (2 * ((f_X8_entryAt t ω).toNatClampNeg)))) C dX8_plan_70 (pk_mul (2) ((f_X8_entryAt t ω).toNatClampNeg)) ?_
        refine g_iadd (v := (nI (44 + 2 * ((f_X8_entryAt t ω).toNatClampNeg)))) C dX8_plan_71 (nI_add (44) (2 * ((f_X8_entryAt t ω).toNatClampNeg))) ?_
        refine g_iconst (v := 1) C dX8_plan_72 (by decide) ?_
        refine g_iadd (v := (nI (44 + 2 * ((f_X8_entryAt t ω).toNatClampNeg) + 1))) C dX8_plan_73 (nI_add (44 + 2 * ((f_X8_entryAt t ω).toNatClampNeg)) (1)) ?_
        refine g_iald (k := 44 + 2 * ((f_X8_entryAt t ω).toNatClampNeg) + 1) C 0 (by decide) (mk_12n (N := 108) (by decide) (by decide)) rfl (vp_in_nI (n := 44 + 2 * ((f_X8_entryAt t ω).toNatClampNeg) + 1) (by omega) (by decide)) (nI_clamp (n := 44 + 2 * ((f_X8_entryAt t ω).toNatClampNeg) + 1) (by omega)) dX8_plan_74 ?_
        refine g_iload_n C dX8_plan_75 rfl 3 rfl ?_
        refine g_icmp_ne (tgt := 82) C dX8_plan_76 (by decide) (fun h5 => ?_) (fun h5 => ?_)
        · refine gv_lv (lv' := [(0, .ref (ad 120)), (1, .int t), (2, .int d)]) [1, 2, 3] rfl ?_
          exact k_X8_plan_82 t d  C hret hlk  ω hmi (fun z => absurd z h3) _ _ (e1.trans (congrArg (fun z : Int32 × Mem => some (Value.int z.1)) ((if_neg h1).trans ((if_neg h2).trans ((if_neg h3).trans ((if_neg h5).trans rfl)))))) (e2.trans (congrArg (fun z : Int32 × Mem => mk X ad z.2) ((if_neg h1).trans ((if_neg h2).trans ((if_neg h3).trans ((if_neg h5).trans rfl))))))
        · refine g_bipush (v := (-5)) C dX8_plan_79 (by decide) ?_
          exact g_iret C hret hlk (e1.trans (pr1 (v := (-5)) (w := ω) ((if_neg h1).trans ((if_neg h2).trans ((if_neg h3).trans ((if_pos h5).trans rfl)))))) (e2.trans (pr2 (v := (-5)) (w := ω) ((if_neg h1).trans ((if_neg h2).trans ((if_neg h3).trans ((if_pos h5).trans rfl)))))) dX8_plan_81
      · refine g_aload_n C dX8_plan_41 rfl 1 rfl ?_
        refine g_get (v := .ref (ad 121)) C iX8 (by decide) (mk_11 (by decide)) rfl 1 (by decide) L7 rfl dX8_plan_42 ?_
        refine g_bipush (v := 43) C dX8_plan_45 (by decide) ?_
        refine g_iald (k := 43) C 0 (by decide) (mk_12n (N := 108) (by decide) (by decide)) rfl (by unfold vp_in; decide) rfl dX8_plan_47 ?_
        refine g_bipush (v := 12) C dX8_plan_48 (by decide) ?_
        refine g_icmp_ne (tgt := 56) C dX8_plan_50 (by decide) (fun h6 => ?_) (fun h6 => ?_)
        · refine g_iload_n C dX8_plan_56 rfl 0 rfl ?_
          refine g_bipush (v := (-5)) C dX8_plan_57 (by decide) ?_
          refine g_icmp_eq (tgt := 82) C dX8_plan_59 (by decide) (fun _ => ?_) (fun z => absurd h3 z)
          refine gv_lv (lv' := [(0, .ref (ad 120)), (1, .int t), (2, .int d)]) [1, 2, 3] rfl ?_
          exact k_X8_plan_82 t d  C hret hlk  ω hmi (fun _ => (rg_ne (n := 11) hmi.2.1 (by decide) h6).2) _ _ (e1.trans (congrArg (fun z : Int32 × Mem => some (Value.int z.1)) ((if_neg h1).trans ((if_neg h2).trans ((if_pos h3).trans ((if_neg h6).trans rfl)))))) (e2.trans (congrArg (fun z : Int32 × Mem => mk X ad z.2) ((if_neg h1).trans ((if_neg h2).trans ((if_pos h3).trans ((if_neg h6).trans rfl))))))
        · refine g_bipush (v := (-3)) C dX8_plan_53 (by decide) ?_
          exact g_iret C hret hlk (e1.trans (pr1 (v := (-3)) (w := ω) ((if_neg h1).trans ((if_neg h2).trans ((if_pos h3).trans ((if_pos h6).trans rfl)))))) (e2.trans (pr2 (v := (-3)) (w := ω) ((if_neg h1).trans ((if_neg h2).trans ((if_pos h3).trans ((if_pos h6).trans rfl)))))) dX8_plan_55
    · refine g_bipush (v := (-2)) C dX8_plan_26 (by decide) ?_
      exact g_iret C hret hlk (e1.trans (pr1 (v := (-2)) (w := ω) ((if_neg h1).trans ((if_pos h2).trans rfl)))) (e2.trans (pr2 (v := (-2)) (w := ω) ((if_neg h1).trans ((if_pos h2).trans rfl)))) dX8_plan_28
def f_X8_plan (t : Int32) (d : Int32) (ω : Mem) : Int32 × Mem := (f_X8_plan_5 t d (st ω 120 0 0))
set_option maxRecDepth 100000 in
set_option maxHeartbeats 4000000 in
theorem c_X8_plan {l_ : Launch} {sa : Nat → Nat} {D : va_G} {X : Nat → ClassId} {ad : Nat → Nat} (t : Int32) (d : Int32) (ω : Mem) (hmi : MIn 10 ω) : CT l_ yX8_plan wsX8_plan rm_X8_plan sa D (tyX X) 128 ad (mk X ad ω) [.ref (ad 120), .int t, .int d] (some (.int (f_X8_plan t d ω).1) : Option Value) (mk X ad (f_X8_plan t d ω).2) := by
  refine ct_of [(0, .ref (ad 120)), (1, .int t), (2, .int d)] (by decide +kernel) rfl rfl (Nat.le_of_ble_eq_true rfl) rfl ?_
  intro p_ e_ s_ m_ args_ below_ meth_ c_ C hret hlk hin
  have e1 : (some (.int (f_X8_plan t d ω).1) : Option Value) = (some (.int (f_X8_plan t d ω).1) : Option Value) := rfl
  have e2 : mk X ad (f_X8_plan t d ω).2 = mk X ad (f_X8_plan t d ω).2 := rfl
  have iX8 : ∀ w ∈ u_ws RX8 TX8 14, w ∈ wsX8_plan := by decide +kernel
  have L31 : Cond.fieldLink RX8 31 (TX8 0).1 (TX8 0).2.1 (TX8 0).2.2.1 ∈ wsX8_plan := by decide +kernel
  refine g_aload_n C dX8_plan_0 rfl 0 rfl ?_
  refine g_iconst (v := 0) C dX8_plan_1 (by decide) ?_
  refine g_put C iX8 tyX8 tyX8_ok nmX8 (by decide) (mk_11 (by decide)) rfl 0 (by decide) L31 rfl rfl rfl (Nat.le_of_ble_eq_true rfl) dX8_plan_2 ?_
  refine gv_eqG (mkp_11_0 (by decide)) ?_
  exact k_X8_plan_5 t d  C hret hlk  (st ω 120 0 0) (MIn_f hmi (by decide)) _ _ (e1.trans (congrArg (fun z : Int32 × Mem => some (Value.int z.1)) rfl)) (e2.trans (congrArg (fun z : Int32 × Mem => mk X ad z.2) rfl))
def clr : Nat → Nat → Mem → Mem
  | 0, _, ω => ω
  | fu + 1, j, ω => if 24 ≤ j then ω else clr fu (j + 1) (st ω 121 (44 + j) 0)
def goodP : Nat → Nat → Mem → Prop
  | 0, _, _ => True
  | fu + 1, j, ω => j < (ω 120 11).toNatClampNeg → (f_X8_entryAt (ω 126 j) ω = -5 → (ω 121 43).toNatClampNeg ≤ 11) ∧ goodP fu (j + 1) (f_X8_plans (ω 126 j) (ω 127 j) ω)
theorem plans20_fr : ∀ (fu : Nat) (t d : Int32) (j : Nat) (ω : Mem) (i : Nat), i ≠ 121 → (f_X8_plans_20 fu t d j ω) i = ω i := by
  intro fu
  induction fu with
  | zero => intro t d j ω i hi; rfl
  | succ fu ih =>
    intro t d j ω i hi
    unfold f_X8_plans_20
    split
    · unfold f_X8_plans_108
      rw [st_nei (fun e => hi e.symm), st_nei (fun e => hi e.symm), st_nei (fun e => hi e.symm)]
    · split
      · unfold f_X8_plans_108
        rw [st_nei (fun e => hi e.symm), st_nei (fun e => hi e.symm), st_nei (fun e => hi e.symm)]
      · rw [ih _ _ _ _ i hi, st_nei (fun e => hi e.symm), st_nei (fun e => hi e.symm)]
theorem plans_fr {t d : Int32} {ω : Mem} {i : Nat} (hi : i ≠ 121) : (f_X8_plans t d ω) i = ω i := by
  unfold f_X8_plans
  split
  · exact plans20_fr _ _ _ _ _ i hi
  · unfold f_X8_plans_108
    rw [st_nei (fun e => hi e.symm), st_nei (fun e => hi e.symm)]
theorem rec50_fr : ∀ (fu j : Nat) (ω : Mem), (∀ i, i ≠ 120 → i ≠ 123 → (f_X8_records_50 fu j ω) i = ω i) ∧ ∀ k, k ≠ 4 → (f_X8_records_50 fu j ω) 120 k = ω 120 k := by
  intro fu
  induction fu with
  | zero => intro j ω; exact ⟨fun _ _ _ => rfl, fun _ _ => rfl⟩
  | succ fu ih =>
    intro j ω
    unfold f_X8_records_50
    split
    · exact ⟨fun i h1 h2 => st_nei (fun e => h1 e.symm), fun k hk => st_ne (fun e => hk e.symm)⟩
    · exact ⟨fun i h1 h2 => ((ih _ _).1 i h1 h2).trans (st_nei (fun e => h2 e.symm)), fun k hk => ((ih _ _).2 k hk).trans (by rw [st_nei (by decide)])⟩
theorem rec10_fr : ∀ (fu j : Nat) (ω : Mem), (∀ i, i ≠ 120 → i ≠ 123 → (f_X8_records_10 fu j ω) i = ω i) ∧ ∀ k, k ≠ 4 → (f_X8_records_10 fu j ω) 120 k = ω 120 k := by
  intro fu
  induction fu with
  | zero => intro j ω; exact ⟨fun _ _ _ => rfl, fun _ _ => rfl⟩
  | succ fu ih =>
    intro j ω
    unfold f_X8_records_10
    split
    · exact ⟨fun i h1 h2 => ((rec50_fr _ _ _).1 i h1 h2).trans (st_nei (fun e => h1 e.symm)), fun k hk => ((rec50_fr _ _ _).2 k hk).trans (st_ne (fun e => hk e.symm))⟩
    · exact ⟨fun i h1 h2 => ((ih _ _).1 i h1 h2).trans (st_nei (fun e => h2 e.symm)), fun k hk => ((ih _ _).2 k hk).trans (by rw [st_nei (by decide)])⟩
theorem records_fr (ω : Mem) : (∀ i, i ≠ 120 → i ≠ 123 → (f_X8_records ω) i = ω i) ∧ ∀ k, k ≠ 4 → (f_X8_records ω) 120 k = ω 120 k := by
  unfold f_X8_records
  split
  · exact rec10_fr _ _ _
  · exact rec50_fr _ _ _
