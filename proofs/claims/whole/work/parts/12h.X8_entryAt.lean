abbrev rm_X8_entryAt : Room := { frames := 0, cells := 0, slots := 0, locals := 0 }
theorem md_X8_entryAt : yX8_entryAt.cls = RX8 ∧ yX8_entryAt.cls ≠ "java/lang/invoke/MethodHandle" ∧ yX8_entryAt.cls ≠ "java/lang/invoke/VarHandle" ∧ (parseMethodDescriptor yX8_entryAt.desc).map (fun d => d.parameters.length) = some 1 := by decide +kernel
def f_X8_entryAt_2 : Nat → Int32 → Nat → Mem → Int32
  | 0, _, _, _ => 0
  | fu + 1, t, j, ω => (if (ω 121 43).toNatClampNeg ≤ j then (-5) else (if (ω 121 (44 + 2 * j)) = t then (nI (j)) else (f_X8_entryAt_2 fu t (j + 1) ω)))
set_option maxRecDepth 100000 in
set_option maxHeartbeats 4000000 in
theorem k_X8_entryAt_2 {l_ : Launch} {p_ : Program} {e_ : Env} {s_ : State} {m_ : MethodId} {args_ : Array Value} {below_ : List Frame} {meth_ : Method} {c_ : Code} {sa : Nat → Nat} {D : va_G} {X : Nat → ClassId} {ad : Nat → Nat} {G0 : Nat → va_E} (fu : Nat) (t : Int32) (C : GC p_ rm_X8_entryAt s_ m_ args_ meth_ c_ cX8_entryAt 3 wsX8_entryAt RX8 sa D (tyX X) (va_A (gw 128 ad G0) s_.heap.size)) (hret : meth_.sig.returnType = (some .int)) (hlk : meth_.locks = false) : ∀ (j : Nat) (ω : Mem) (hmi : MIn 10 ω) (hj : j ≤ 12) (hfuel : 12 < j + fu) (rv : Option Value) (G2 : Nat → va_E) (e1 : rv = some (.int (f_X8_entryAt_2 fu t j ω))) (e2 : G2 = mk X ad ω), GV p_ l_ e_ rm_X8_entryAt s_ m_ args_ below_ meth_ c_ 0 0 (CQ below_ args_ s_ D 128 ad G0 rv G2) D (va_A (gw 128 ad G0) s_.heap.size) 3 128 ad (mk X ad ω) [(0, .ref (ad 120)), (1, .int t), (2, .int (nI (j)))] 2 [] := by
  have iX8 : ∀ w ∈ u_ws RX8 TX8 14, w ∈ wsX8_entryAt := by decide +kernel
  have L7 : Cond.fieldLink RX8 7 (TX8 1).1 (TX8 1).2.1 (TX8 1).2.2.1 ∈ wsX8_entryAt := by decide +kernel
  induction fu with
  | zero =>
    intro j ω hmi hj hfuel rv G2 e1 e2
    exact absurd hfuel (by omega)
  | succ fu ih =>
    intro j ω hmi hj hfuel rv G2 e1 e2
    refine g_iload_n C dX8_entryAt_2 rfl 2 rfl ?_
    refine g_aload_n C dX8_entryAt_3 rfl 0 rfl ?_
    refine g_get (v := .ref (ad 121)) C iX8 (by decide) (mk_11 (by decide)) rfl 1 (by decide) L7 rfl dX8_entryAt_4 ?_
    refine g_bipush (v := 43) C dX8_entryAt_7 (by decide) ?_
    refine g_iald (k := 43) C 0 (by decide) (mk_12n (N := 108) (by decide) (by decide)) rfl (by unfold vp_in; decide) rfl dX8_entryAt_9 ?_
    have hz1 : (ω 121 43).toNatClampNeg ≤ _ := (hmi.2.1).2
    refine gv_eqS (st' := [.int (nI ((ω 121 43).toNatClampNeg)), .int (nI (j))]) (congrArg (fun z : Int32 => ([Value.int z, .int (nI (j))] : List Value)) (hmi.2.1).1) ?_
    refine g_icmp_ge (tgt := 36) C dX8_entryAt_10 (by decide) (fun h2 => ?_) (fun h2 => ?_)
    · have h2n := (nI_leI (a := (ω 121 43).toNatClampNeg) (b := j) (by omega) (by omega)).mp h2
      refine g_bipush (v := (-5)) C dX8_entryAt_36 (by decide) ?_
      exact g_iret C hret hlk (e1.trans (congrArg (fun z => some (Value.int z)) ((if_pos h2n).trans rfl))) e2 dX8_entryAt_38
    · have h2n := (not_congr (nI_leI (a := (ω 121 43).toNatClampNeg) (b := j) (by omega) (by omega))).mp h2
      refine g_aload_n C dX8_entryAt_13 rfl 0 rfl ?_
      refine g_get (v := .ref (ad 121)) C iX8 (by decide) (mk_11 (by decide)) rfl 1 (by decide) L7 rfl dX8_entryAt_14 ?_
      refine g_bipush (v := 44) C dX8_entryAt_17 (by decide) ?_
      refine g_iconst (v := 2) C dX8_entryAt_19 (by decide) ?_
      refine g_iload_n C dX8_entryAt_20 rfl 2 rfl ?_
      refine g_imul (v := (nI (2 * j))) C dX8_entryAt_21 (pk_mul (2) (j)) ?_
      refine g_iadd (v := (nI (44 + 2 * j))) C dX8_entryAt_22 (nI_add (44) (2 * j)) ?_
      refine g_iald (k := 44 + 2 * j) C 0 (by decide) (mk_12n (N := 108) (by decide) (by decide)) rfl (vp_in_nI (n := 44 + 2 * j) (by omega) (by decide)) (nI_clamp (n := 44 + 2 * j) (by omega)) dX8_entryAt_23 ?_
      refine g_iload_n C dX8_entryAt_24 rfl 1 rfl ?_
      refine g_icmp_ne (tgt := 30) C dX8_entryAt_25 (by decide) (fun h3 => ?_) (fun h3 => ?_)
      · refine g_iinc (k := 2) (v := (nI (j + 1))) (lv' := [(2, .int (nI (j + 1))), (0, .ref (ad 120)), (1, .int t)]) C dX8_entryAt_30 rfl (nI_1 (j)) (by decide) rfl ?_
        refine g_goto (tgt := 2) C dX8_entryAt_33 (by decide) ?_
        refine gv_lv (lv' := [(0, .ref (ad 120)), (1, .int t), (2, .int (nI (j + 1)))]) [1, 2, 0] rfl ?_
        exact ih (j + 1) ω hmi (by omega) (by omega) _ _ (e1.trans (congrArg (fun z => some (Value.int z)) ((if_neg h2n).trans ((if_neg h3).trans rfl)))) e2
      · refine g_iload_n C dX8_entryAt_28 rfl 2 rfl ?_
        exact g_iret C hret hlk (e1.trans (congrArg (fun z => some (Value.int z)) ((if_neg h2n).trans ((if_pos h3).trans rfl)))) e2 dX8_entryAt_29
def f_X8_entryAt (t : Int32) (ω : Mem) : Int32 := (f_X8_entryAt_2 13 t 0 ω)
set_option maxRecDepth 100000 in
set_option maxHeartbeats 4000000 in
theorem c_X8_entryAt {l_ : Launch} {sa : Nat → Nat} {D : va_G} {X : Nat → ClassId} {ad : Nat → Nat} (t : Int32) (ω : Mem) (hmi : MIn 10 ω) : CT l_ yX8_entryAt wsX8_entryAt rm_X8_entryAt sa D (tyX X) 128 ad (mk X ad ω) [.ref (ad 120), .int t] (some (.int (f_X8_entryAt t ω)) : Option Value) (mk X ad ω) := by
  refine ct_of [(0, .ref (ad 120)), (1, .int t)] (by decide +kernel) rfl rfl (Nat.le_of_ble_eq_true rfl) rfl ?_
  intro p_ e_ s_ m_ args_ below_ meth_ c_ C hret hlk hin
  have e1 : (some (.int (f_X8_entryAt t ω)) : Option Value) = (some (.int (f_X8_entryAt t ω)) : Option Value) := rfl
  have e2 : mk X ad ω = mk X ad ω := rfl
  refine g_iconst (v := 0) C dX8_entryAt_0 (by decide) ?_
  refine g_istore_n (lv' := [(2, .int 0), (0, .ref (ad 120)), (1, .int t)]) C dX8_entryAt_1 rfl (by decide) rfl ?_
  refine gv_lv (lv' := [(0, .ref (ad 120)), (1, .int t), (2, .int 0)]) [1, 2, 0] rfl ?_
  exact k_X8_entryAt_2 (13) t  C hret hlk 0 ω hmi (by omega) (by omega) _ _ (e1.trans (congrArg (fun z => some (Value.int z)) rfl)) e2
theorem entryAt_lp {t : Int32} {ω : Mem} (hz : (ω 121 43).toNatClampNeg ≤ 12) : ∀ (fu j : Nat), j ≤ (ω 121 43).toNatClampNeg → 12 < j + fu → (∀ i, i < j → ω 121 (44 + 2 * i) ≠ t) → (f_X8_entryAt_2 fu t j ω = -5 ∧ ∀ i, i < (ω 121 43).toNatClampNeg → ω 121 (44 + 2 * i) ≠ t) ∨ ∃ i, i < (ω 121 43).toNatClampNeg ∧ f_X8_entryAt_2 fu t j ω = nI i ∧ ω 121 (44 + 2 * i) = t ∧ ∀ i', i' < i → ω 121 (44 + 2 * i') ≠ t := by
  intro fu
  induction fu with
  | zero => intro j hj hf; omega
  | succ fu ih =>
    intro j hj hf hn
    unfold f_X8_entryAt_2
    by_cases h1 : (ω 121 43).toNatClampNeg ≤ j
    · rw [if_pos h1]
      exact Or.inl ⟨rfl, fun i hi => hn i (by omega)⟩
    · rw [if_neg h1]
      by_cases h2 : ω 121 (44 + 2 * j) = t
      · rw [if_pos h2]
        exact Or.inr ⟨j, by omega, rfl, h2, hn⟩
      · rw [if_neg h2]
        refine ih (j + 1) (by omega) (by omega) (fun i hi => ?_)
        rcases (show i < j ∨ i = j by omega) with q | q
        · exact hn i q
        · rw [q]
          exact h2
theorem entryAt_cases (t : Int32) (ω : Mem) (h : rg (ω 121 43) 12) : (f_X8_entryAt t ω = -5 ∧ ∀ i, i < (ω 121 43).toNatClampNeg → ω 121 (44 + 2 * i) ≠ t) ∨ ∃ i, i < (ω 121 43).toNatClampNeg ∧ f_X8_entryAt t ω = nI i ∧ ω 121 (44 + 2 * i) = t ∧ ∀ i', i' < i → ω 121 (44 + 2 * i') ≠ t := entryAt_lp h.2 13 0 (Nat.zero_le _) (by omega) (fun i hi => absurd hi (Nat.not_lt_zero i))
theorem entry_rg {t : Int32} {ω : Mem} (h : rg (ω 121 43) 12) (hn : ¬ f_X8_entryAt t ω = -5) : rg (f_X8_entryAt t ω) 11 := by
  rcases entryAt_cases t ω h with q | ⟨i, h1, h2, -, -⟩
  · exact absurd q.1 hn
  · rw [h2]
    exact rg_of (by have := h.2; omega) (by decide)
theorem MIn_43 {n : Nat} {ω : Mem} {v : Int32} (h : MIn n ω) (hv : rg v 12) : MIn n (st ω 121 43 v) := ⟨by rw [st_ne (by decide)]; exact h.1, by rw [st_eq]; exact hv, h.2.2⟩
theorem in_in {w : Int32} {ω : Mem} (h : ¬ f_X8_in w 0 3 ω = 0) : vp_in w 108 := by
  unfold f_X8_in at h
  by_cases h1 : w < 0
  · rw [if_pos h1] at h
    exact absurd rfl h
  · rw [if_neg h1] at h
    by_cases h2 : (3 : Int32) < w
    · rw [if_pos h2] at h
      exact absurd rfl h
    · rw [vp_in_iff]
      rw [Int32.lt_iff_toInt_lt] at h1 h2
      have e0 : (0 : Int32).toInt = 0 := rfl
      have e3 : (3 : Int32).toInt = 3 := rfl
      omega
abbrev rm_X8_plans : Room := { frames := 1, cells := 0, slots := 0, locals := 22 }
theorem md_X8_plans : yX8_plans.cls = RX8 ∧ yX8_plans.cls ≠ "java/lang/invoke/MethodHandle" ∧ yX8_plans.cls ≠ "java/lang/invoke/VarHandle" ∧ (parseMethodDescriptor yX8_plans.desc).map (fun d => d.parameters.length) = some 2 := by decide +kernel
def f_X8_plans_108 (t : Int32) (d : Int32) (q : Nat) (ω : Mem) : Mem := (st (st ω 121 (44 + 2 * q) t) 121 (44 + 2 * q + 1) d)
set_option maxRecDepth 100000 in
set_option maxHeartbeats 4000000 in
theorem k_X8_plans_108 {l_ : Launch} {p_ : Program} {e_ : Env} {s_ : State} {m_ : MethodId} {args_ : Array Value} {below_ : List Frame} {meth_ : Method} {c_ : Code} {sa : Nat → Nat} {D : va_G} {X : Nat → ClassId} {ad : Nat → Nat} {G0 : Nat → va_E} (t : Int32) (d : Int32) (C : GC p_ rm_X8_plans s_ m_ args_ meth_ c_ cX8_plans 4 wsX8_plans RX8 sa D (tyX X) (va_A (gw 128 ad G0) s_.heap.size)) (hret : meth_.sig.returnType = none) (hlk : meth_.locks = false) : ∀ (q : Nat) (ω : Mem) (hmi : MIn 10 ω) (hq : q ≤ 11) (rv : Option Value) (G2 : Nat → va_E) (e1 : rv = none) (e2 : G2 = mk X ad (f_X8_plans_108 t d q ω)), GV p_ l_ e_ rm_X8_plans s_ m_ args_ below_ meth_ c_ 0 0 (CQ below_ args_ s_ D 128 ad G0 rv G2) D (va_A (gw 128 ad G0) s_.heap.size) 4 128 ad (mk X ad ω) [(0, .ref (ad 120)), (1, .int t), (2, .int d), (3, .int (nI (q)))] 108 [] := by
  have iX8 : ∀ w ∈ u_ws RX8 TX8 14, w ∈ wsX8_plans := by decide +kernel
  have L7 : Cond.fieldLink RX8 7 (TX8 1).1 (TX8 1).2.1 (TX8 1).2.2.1 ∈ wsX8_plans := by decide +kernel
  intro q ω hmi hq rv G2 e1 e2
  refine g_aload_n C dX8_plans_108 rfl 0 rfl ?_
  refine g_get (v := .ref (ad 121)) C iX8 (by decide) (mk_11 (by decide)) rfl 1 (by decide) L7 rfl dX8_plans_109 ?_
  refine g_bipush (v := 44) C dX8_plans_112 (by decide) ?_
  refine g_iconst (v := 2) C dX8_plans_114 (by decide) ?_
  refine g_iload_n C dX8_plans_115 rfl 3 rfl ?_
  refine g_imul (v := (nI (2 * q))) C dX8_plans_116 (pk_mul (2) (q)) ?_
  refine g_iadd (v := (nI (44 + 2 * q))) C dX8_plans_117 (nI_add (44) (2 * q)) ?_
  refine g_iload_n C dX8_plans_118 rfl 1 rfl ?_
  refine g_iast (k := 44 + 2 * q) C 0 (by decide) (mk_12n (N := 108) (by decide) (by decide)) rfl (vp_in_nI (n := 44 + 2 * q) (by omega) (by decide)) (nI_clamp (n := 44 + 2 * q) (by omega)) dX8_plans_119 ?_
  refine gv_eqG (mk_row (N := 108) (by decide) (by decide)) ?_
  refine g_aload_n C dX8_plans_120 rfl 0 rfl ?_
  refine g_get (v := .ref (ad 121)) C iX8 (by decide) (mk_11 (by decide)) rfl 1 (by decide) L7 rfl dX8_plans_121 ?_
  refine g_bipush (v := 44) C dX8_plans_124 (by decide) ?_
  refine g_iconst (v := 2) C dX8_plans_126 (by decide) ?_
  refine g_iload_n C dX8_plans_127 rfl 3 rfl ?_
  refine g_imul (v := (nI (2 * q))) C dX8_plans_128 (pk_mul (2) (q)) ?_
  refine g_iadd (v := (nI (44 + 2 * q))) C dX8_plans_129 (nI_add (44) (2 * q)) ?_
  refine g_iconst (v := 1) C dX8_plans_130 (by decide) ?_
  refine g_iadd (v := (nI (44 + 2 * q + 1))) C dX8_plans_131 (nI_add (44 + 2 * q) (1)) ?_
  refine g_iload_n C dX8_plans_132 rfl 2 rfl ?_
  refine g_iast (k := 44 + 2 * q + 1) C 0 (by decide) (mk_12n (N := 108) (by decide) (by decide)) rfl (vp_in_nI (n := 44 + 2 * q + 1) (by omega) (by decide)) (nI_clamp (n := 44 + 2 * q + 1) (by omega)) dX8_plans_133 ?_
  refine gv_eqG (mk_row (N := 108) (by decide) (by decide)) ?_
  exact g_vret C hret hlk e1 (e2.trans (congrArg (mk X ad) rfl)) dX8_plans_134
theorem mi_X8_plans_108 (t : Int32) (d : Int32) : ∀ (q : Nat) (ω : Mem) (hmi : MIn 10 ω) (hq : q ≤ 11), MIn 10 (f_X8_plans_108 t d q ω) := by
  intro q ω hmi hq
  unfold f_X8_plans_108
  have hz1 := hmi.1.2; have hz2 := hmi.2.1.2; have hz3 := hmi.2.2.2
  exact (MIn_s (MIn_s hmi (by omega) (by omega)) (by omega) (by omega))
def f_X8_plans_20 : Nat → Int32 → Int32 → Nat → Mem → Mem
  | 0, _, _, _, ω => ω
  | fu + 1, t, d, j, ω => (if j ≤ 0 then (f_X8_plans_108 t d j (st ω 121 43 ((ω 121 43) + 1))) else (if (ω 121 (44 + 2 * j - 2)) ≤ t then (f_X8_plans_108 t d j (st ω 121 43 ((ω 121 43) + 1))) else (f_X8_plans_20 fu t d (j - 1) (st (st ω 121 (44 + 2 * j) (ω 121 (44 + 2 * j - 2))) 121 (44 + 2 * j + 1) ((st ω 121 (44 + 2 * j) (ω 121 (44 + 2 * j - 2))) 121 (44 + 2 * j - 1))))))
set_option maxRecDepth 100000 in
set_option maxHeartbeats 4000000 in
theorem k_X8_plans_20 {l_ : Launch} {p_ : Program} {e_ : Env} {s_ : State} {m_ : MethodId} {args_ : Array Value} {below_ : List Frame} {meth_ : Method} {c_ : Code} {sa : Nat → Nat} {D : va_G} {X : Nat → ClassId} {ad : Nat → Nat} {G0 : Nat → va_E} (fu : Nat) (t : Int32) (d : Int32) (C : GC p_ rm_X8_plans s_ m_ args_ meth_ c_ cX8_plans 4 wsX8_plans RX8 sa D (tyX X) (va_A (gw 128 ad G0) s_.heap.size)) (hret : meth_.sig.returnType = none) (hlk : meth_.locks = false) : ∀ (j : Nat) (ω : Mem) (hmi : MIn 10 ω) (h43 : (ω 121 43).toNatClampNeg ≤ 11) (hj : j ≤ 11) (hfuel : j < fu) (rv : Option Value) (G2 : Nat → va_E) (e1 : rv = none) (e2 : G2 = mk X ad (f_X8_plans_20 fu t d j ω)), GV p_ l_ e_ rm_X8_plans s_ m_ args_ below_ meth_ c_ 0 0 (CQ below_ args_ s_ D 128 ad G0 rv G2) D (va_A (gw 128 ad G0) s_.heap.size) 4 128 ad (mk X ad ω) [(0, .ref (ad 120)), (1, .int t), (2, .int d), (3, .int (nI (j)))] 20 [] := by
  have iX8 : ∀ w ∈ u_ws RX8 TX8 14, w ∈ wsX8_plans := by decide +kernel
  have L7 : Cond.fieldLink RX8 7 (TX8 1).1 (TX8 1).2.1 (TX8 1).2.2.1 ∈ wsX8_plans := by decide +kernel
  induction fu with
  | zero =>
    intro j ω hmi h43 hj hfuel rv G2 e1 e2
    exact absurd hfuel (by omega)
  | succ fu ih =>
    intro j ω hmi h43 hj hfuel rv G2 e1 e2
    refine g_iload_n C dX8_plans_20 rfl 3 rfl ?_
    refine g_if_le (tgt := 97) C dX8_plans_21 (by decide) (fun h1 => ?_) (fun h1 => ?_)
    · have h1n := (nI_leI (a := j) (b := 0) (by omega) (by omega)).mp h1
      refine g_aload_n C dX8_plans_97 rfl 0 rfl ?_
      refine g_get (v := .ref (ad 121)) C iX8 (by decide) (mk_11 (by decide)) rfl 1 (by decide) L7 rfl dX8_plans_98 ?_
      refine g_bipush (v := 43) C dX8_plans_101 (by decide) ?_
      refine g_dup2 C dX8_plans_103 rfl rfl ?_
      refine g_iald (k := 43) C 0 (by decide) (mk_12n (N := 108) (by decide) (by decide)) rfl (by unfold vp_in; decide) rfl dX8_plans_104 ?_
      refine g_iconst (v := 1) C dX8_plans_105 (by decide) ?_
      refine g_iadd (v := ((ω 121 43) + 1)) C dX8_plans_106 rfl ?_
      refine g_iast (k := 43) C 0 (by decide) (mk_12n (N := 108) (by decide) (by decide)) rfl (by unfold vp_in; decide) rfl dX8_plans_107 ?_
      refine gv_eqG (mk_row (N := 108) (by decide) (by decide)) ?_
      exact k_X8_plans_108 t d  C hret hlk j (st ω 121 43 ((ω 121 43) + 1)) (MIn_43 hmi (rg_inc (n := 11) ⟨hmi.2.1.1, h43⟩ (by decide))) (by omega) _ _ e1 (e2.trans (congrArg (mk X ad) ((if_pos h1n).trans rfl)))
    · have h1n := (not_congr (nI_leI (a := j) (b := 0) (by omega) (by omega))).mp h1
      refine g_aload_n C dX8_plans_24 rfl 0 rfl ?_
      refine g_get (v := .ref (ad 121)) C iX8 (by decide) (mk_11 (by decide)) rfl 1 (by decide) L7 rfl dX8_plans_25 ?_
      refine g_bipush (v := 44) C dX8_plans_28 (by decide) ?_
      refine g_iconst (v := 2) C dX8_plans_30 (by decide) ?_
      refine g_iload_n C dX8_plans_31 rfl 3 rfl ?_
      refine g_imul (v := (nI (2 * j))) C dX8_plans_32 (pk_mul (2) (j)) ?_
      refine g_iadd (v := (nI (44 + 2 * j))) C dX8_plans_33 (nI_add (44) (2 * j)) ?_
      refine g_iconst (v := 2) C dX8_plans_34 (by decide) ?_
      refine g_isub (v := (nI (44 + 2 * j - 2))) C dX8_plans_35 (pk_sub (a := 44 + 2 * j) (b := 2) (by omega)) ?_
      refine g_iald (k := 44 + 2 * j - 2) C 0 (by decide) (mk_12n (N := 108) (by decide) (by decide)) rfl (vp_in_nI (n := 44 + 2 * j - 2) (by omega) (by decide)) (nI_clamp (n := 44 + 2 * j - 2) (by omega)) dX8_plans_36 ?_
      refine g_iload_n C dX8_plans_37 rfl 1 rfl ?_
      refine g_icmp_le (tgt := 97) C dX8_plans_38 (by decide) (fun h2 => ?_) (fun h2 => ?_)
      · refine g_aload_n C dX8_plans_97 rfl 0 rfl ?_
        refine g_get (v := .ref (ad 121)) C iX8 (by decide) (mk_11 (by decide)) rfl 1 (by decide) L7 rfl dX8_plans_98 ?_
        refine g_bipush (v := 43) C dX8_plans_101 (by decide) ?_
        refine g_dup2 C dX8_plans_103 rfl rfl ?_
        refine g_iald (k := 43) C 0 (by decide) (mk_12n (N := 108) (by decide) (by decide)) rfl (by unfold vp_in; decide) rfl dX8_plans_104 ?_
        refine g_iconst (v := 1) C dX8_plans_105 (by decide) ?_
        refine g_iadd (v := ((ω 121 43) + 1)) C dX8_plans_106 rfl ?_
        refine g_iast (k := 43) C 0 (by decide) (mk_12n (N := 108) (by decide) (by decide)) rfl (by unfold vp_in; decide) rfl dX8_plans_107 ?_
        refine gv_eqG (mk_row (N := 108) (by decide) (by decide)) ?_
        exact k_X8_plans_108 t d  C hret hlk j (st ω 121 43 ((ω 121 43) + 1)) (MIn_43 hmi (rg_inc (n := 11) ⟨hmi.2.1.1, h43⟩ (by decide))) (by omega) _ _ e1 (e2.trans (congrArg (mk X ad) ((if_neg h1n).trans ((if_pos h2).trans rfl))))
      · refine g_aload_n C dX8_plans_41 rfl 0 rfl ?_
        refine g_get (v := .ref (ad 121)) C iX8 (by decide) (mk_11 (by decide)) rfl 1 (by decide) L7 rfl dX8_plans_42 ?_
        refine g_bipush (v := 44) C dX8_plans_45 (by decide) ?_
        refine g_iconst (v := 2) C dX8_plans_47 (by decide) ?_
        refine g_iload_n C dX8_plans_48 rfl 3 rfl ?_
        refine g_imul (v := (nI (2 * j))) C dX8_plans_49 (pk_mul (2) (j)) ?_
        refine g_iadd (v := (nI (44 + 2 * j))) C dX8_plans_50 (nI_add (44) (2 * j)) ?_
        refine g_aload_n C dX8_plans_51 rfl 0 rfl ?_
        refine g_get (v := .ref (ad 121)) C iX8 (by decide) (mk_11 (by decide)) rfl 1 (by decide) L7 rfl dX8_plans_52 ?_
        refine g_bipush (v := 44) C dX8_plans_55 (by decide) ?_
        refine g_iconst (v := 2) C dX8_plans_57 (by decide) ?_
        refine g_iload_n C dX8_plans_58 rfl 3 rfl ?_
        refine g_imul (v := (nI (2 * j))) C dX8_plans_59 (pk_mul (2) (j)) ?_
        refine g_iadd (v := (nI (44 + 2 * j))) C dX8_plans_60 (nI_add (44) (2 * j)) ?_
        refine g_iconst (v := 2) C dX8_plans_61 (by decide) ?_
        refine g_isub (v := (nI (44 + 2 * j - 2))) C dX8_plans_62 (pk_sub (a := 44 + 2 * j) (b := 2) (by omega)) ?_
        refine g_iald (k := 44 + 2 * j - 2) C 0 (by decide) (mk_12n (N := 108) (by decide) (by decide)) rfl (vp_in_nI (n := 44 + 2 * j - 2) (by omega) (by decide)) (nI_clamp (n := 44 + 2 * j - 2) (by omega)) dX8_plans_63 ?_
        refine g_iast (k := 44 + 2 * j) C 0 (by decide) (mk_12n (N := 108) (by decide) (by decide)) rfl (vp_in_nI (n := 44 + 2 * j) (by omega) (by decide)) (nI_clamp (n := 44 + 2 * j) (by omega)) dX8_plans_64 ?_
        refine gv_eqG (mk_row (N := 108) (by decide) (by decide)) ?_
        refine g_aload_n C dX8_plans_65 rfl 0 rfl ?_
        refine g_get (v := .ref (ad 121)) C iX8 (by decide) (mk_11 (by decide)) rfl 1 (by decide) L7 rfl dX8_plans_66 ?_
        refine g_bipush (v := 44) C dX8_plans_69 (by decide) ?_
        refine g_iconst (v := 2) C dX8_plans_71 (by decide) ?_
        refine g_iload_n C dX8_plans_72 rfl 3 rfl ?_
        refine g_imul (v := (nI (2 * j))) C dX8_plans_73 (pk_mul (2) (j)) ?_
        refine g_iadd (v := (nI (44 + 2 * j))) C dX8_plans_74 (nI_add (44) (2 * j)) ?_
        refine g_iconst (v := 1) C dX8_plans_75 (by decide) ?_
        refine g_iadd (v := (nI (44 + 2 * j + 1))) C dX8_plans_76 (nI_add (44 + 2 * j) (1)) ?_
        refine g_aload_n C dX8_plans_77 rfl 0 rfl ?_
        refine g_get (v := .ref (ad 121)) C iX8 (by decide) (mk_11 (by decide)) rfl 1 (by decide) L7 rfl dX8_plans_78 ?_
        refine g_bipush (v := 44) C dX8_plans_81 (by decide) ?_
        refine g_iconst (v := 2) C dX8_plans_83 (by decide) ?_
        refine g_iload_n C dX8_plans_84 rfl 3 rfl ?_
        refine g_imul (v := (nI (2 * j))) C dX8_plans_85 (pk_mul (2) (j)) ?_
        refine g_iadd (v := (nI (44 + 2 * j))) C dX8_plans_86 (nI_add (44) (2 * j)) ?_
        refine g_iconst (v := 1) C dX8_plans_87 (by decide) ?_
        refine g_isub (v := (nI (44 + 2 * j - 1))) C dX8_plans_88 (pk_sub (a := 44 + 2 * j) (b := 1) (by omega)) ?_
        refine g_iald (k := 44 + 2 * j - 1) C 0 (by decide) (mk_12n (N := 108) (by decide) (by decide)) rfl (vp_in_nI (n := 44 + 2 * j - 1) (by omega) (by decide)) (nI_clamp (n := 44 + 2 * j - 1) (by omega)) dX8_plans_89 ?_
        refine g_iast (k := 44 + 2 * j + 1) C 0 (by decide) (mk_12n (N := 108) (by decide) (by decide)) rfl (vp_in_nI (n := 44 + 2 * j + 1) (by omega) (by decide)) (nI_clamp (n := 44 + 2 * j + 1) (by omega)) dX8_plans_90 ?_
        refine gv_eqG (mk_row (N := 108) (by decide) (by decide)) ?_
        refine g_iinc (k := 3) (v := (nI (j - 1))) (lv' := [(3, .int (nI (j - 1))), (0, .ref (ad 120)), (1, .int t), (2, .int d)]) C dX8_plans_91 rfl (nI_dec (a := j) (by omega)) (by decide) rfl ?_
        refine g_goto (tgt := 20) C dX8_plans_94 (by decide) ?_
        refine gv_lv (lv' := [(0, .ref (ad 120)), (1, .int t), (2, .int d), (3, .int (nI (j - 1)))]) [1, 2, 3, 0] rfl ?_
        exact ih (j - 1) (st (st ω 121 (44 + 2 * j) (ω 121 (44 + 2 * j - 2))) 121 (44 + 2 * j + 1) ((st ω 121 (44 + 2 * j) (ω 121 (44 + 2 * j - 2))) 121 (44 + 2 * j - 1))) (MIn_s (MIn_s hmi (by omega) (by omega)) (by omega) (by omega)) (by rw [st_ne (by omega), st_ne (by omega)]; exact h43) (by omega) (by omega) _ _ e1 (e2.trans (congrArg (mk X ad) ((if_neg h1n).trans ((if_neg h2).trans rfl))))
theorem mi_X8_plans_20 (t : Int32) (d : Int32) : ∀ (fu : Nat) (j : Nat) (ω : Mem) (hmi : MIn 10 ω) (h43 : (ω 121 43).toNatClampNeg ≤ 11) (hj : j ≤ 11) (hfuel : j < fu), MIn 10 (f_X8_plans_20 fu t d j ω) := by
  intro fu
  induction fu with
  | zero =>
    intro j ω hmi h43 hj hfuel
    exact absurd hfuel (by omega)
  | succ fu ih =>
    intro j ω hmi h43 hj hfuel
    unfold f_X8_plans_20
    have hz1 := hmi.1.2; have hz2 := hmi.2.1.2; have hz3 := hmi.2.2.2
    by_cases h1n : j ≤ 0
    · rw [if_pos h1n]
      exact mi_X8_plans_108 t d  j (st ω 121 43 ((ω 121 43) + 1)) (MIn_43 hmi (rg_inc (n := 11) ⟨hmi.2.1.1, h43⟩ (by decide))) (by omega)
    · rw [if_neg h1n]
      by_cases h2 : (ω 121 (44 + 2 * j - 2)) ≤ t
      · rw [if_pos h2]
        exact mi_X8_plans_108 t d  j (st ω 121 43 ((ω 121 43) + 1)) (MIn_43 hmi (rg_inc (n := 11) ⟨hmi.2.1.1, h43⟩ (by decide))) (by omega)
      · rw [if_neg h2]
        exact ih (j - 1) (st (st ω 121 (44 + 2 * j) (ω 121 (44 + 2 * j - 2))) 121 (44 + 2 * j + 1) ((st ω 121 (44 + 2 * j) (ω 121 (44 + 2 * j - 2))) 121 (44 + 2 * j - 1))) (MIn_s (MIn_s hmi (by omega) (by omega)) (by omega) (by omega)) (by rw [st_ne (by omega), st_ne (by omega)]; exact h43) (by omega) (by omega)
def f_X8_plans (t : Int32) (d : Int32) (ω : Mem) : Mem := (if (f_X8_entryAt t ω) = (-5) then (f_X8_plans_20 13 t d ((ω 121 43).toNatClampNeg) ω) else (f_X8_plans_108 t d ((f_X8_entryAt t ω).toNatClampNeg) ω))
theorem mi_X8_plans (t : Int32) (d : Int32) (ω : Mem) (hmi : MIn 10 ω) (hnew : f_X8_entryAt t ω = -5 → (ω 121 43).toNatClampNeg ≤ 11) : MIn 10 (f_X8_plans t d ω) := by
  unfold f_X8_plans
  have hz1 := hmi.1.2; have hz2 := hmi.2.1.2; have hz3 := hmi.2.2.2
  by_cases h1 : (f_X8_entryAt t ω) = (-5)
  · rw [if_pos h1]
    exact mi_X8_plans_20 t d  (13) ((ω 121 43).toNatClampNeg) ω hmi (hnew h1) (hnew h1) (Nat.lt_of_le_of_lt (hnew h1) (by decide))
  · rw [if_neg h1]
    exact mi_X8_plans_108 t d  ((f_X8_entryAt t ω).toNatClampNeg) ω hmi (entry_rg hmi.2.1 h1).2
set_option maxRecDepth 100000 in
set_option maxHeartbeats 4000000 in
theorem c_X8_plans {l_ : Launch} {sa : Nat → Nat} {D : va_G} {X : Nat → ClassId} {ad : Nat → Nat} (t : Int32) (d : Int32) (ω : Mem) (hmi : MIn 10 ω) (hnew : f_X8_entryAt t ω = -5 → (ω 121 43).toNatClampNeg ≤ 11) : CT l_ yX8_plans wsX8_plans rm_X8_plans sa D (tyX X) 128 ad (mk X ad ω) [.ref (ad 120), .int t, .int d] (none : Option Value) (mk X ad (f_X8_plans t d ω)) := by
  refine ct_of [(0, .ref (ad 120)), (1, .int t), (2, .int d)] (by decide +kernel) rfl rfl (Nat.le_of_ble_eq_true rfl) rfl ?_
  intro p_ e_ s_ m_ args_ below_ meth_ c_ C hret hlk hin
  have e1 : (none : Option Value) = (none : Option Value) := rfl
  have e2 : mk X ad (f_X8_plans t d ω) = mk X ad (f_X8_plans t d ω) := rfl
  have iX8 : ∀ w ∈ u_ws RX8 TX8 14, w ∈ wsX8_plans := by decide +kernel
  have L7 : Cond.fieldLink RX8 7 (TX8 1).1 (TX8 1).2.1 (TX8 1).2.2.1 ∈ wsX8_plans := by decide +kernel
  refine g_aload_n C dX8_plans_0 rfl 0 rfl ?_
  refine g_iload_n C dX8_plans_1 rfl 1 rfl ?_
  refine g_callV (rest := []) (st1 := [.int (f_X8_entryAt t ω)]) C (c_X8_entryAt t ω hmi) (cwV 1 C.hts gX8_plans_X8_entryAt rfl rfl rfl md_X8_entryAt ⟨Nat.le_of_ble_eq_true rfl, Nat.le_of_ble_eq_true rfl⟩) (by decide) (mk_11 (by decide)) rfl rfl rfl rfl rfl (Nat.le_of_ble_eq_true rfl) dX8_plans_2 (Nat.zero_le _) (Nat.zero_le _) ?_
  refine g_istore_n (lv' := [(3, .int (f_X8_entryAt t ω)), (0, .ref (ad 120)), (1, .int t), (2, .int d)]) C dX8_plans_5 rfl (by decide) rfl ?_
  refine g_iload_n C dX8_plans_6 rfl 0 rfl ?_
  refine g_bipush (v := (-5)) C dX8_plans_7 (by decide) ?_
  refine g_icmp_ne (tgt := 108) C dX8_plans_9 (by decide) (fun h1 => ?_) (fun h1 => ?_)
  · refine gv_eqL (lv' := [(3, .int (nI ((f_X8_entryAt t ω).toNatClampNeg))), (0, .ref (ad 120)), (1, .int t), (2, .int d)]) (congrArg (fun z : Int32 => ([(3, Value.int z), (0, .ref (ad 120)), (1, .int t), (2, .int d)] : List (Nat × Value))) (entry_rg hmi.2.1 h1).1) ?_
    refine gv_lv (lv' := [(0, .ref (ad 120)), (1, .int t), (2, .int d), (3, .int (nI ((f_X8_entryAt t ω).toNatClampNeg)))]) [1, 2, 3, 0] rfl ?_
    exact k_X8_plans_108 t d  C hret hlk ((f_X8_entryAt t ω).toNatClampNeg) ω hmi (entry_rg hmi.2.1 h1).2 _ _ e1 (e2.trans (congrArg (mk X ad) ((if_neg h1).trans rfl)))
  · refine g_aload_n C dX8_plans_12 rfl 1 rfl ?_
    refine g_get (v := .ref (ad 121)) C iX8 (by decide) (mk_11 (by decide)) rfl 1 (by decide) L7 rfl dX8_plans_13 ?_
    refine g_bipush (v := 43) C dX8_plans_16 (by decide) ?_
    refine g_iald (k := 43) C 0 (by decide) (mk_12n (N := 108) (by decide) (by decide)) rfl (by unfold vp_in; decide) rfl dX8_plans_18 ?_
    have hz2 : (ω 121 43).toNatClampNeg ≤ _ := (hmi.2.1).2
    refine gv_eqS (st' := [.int (nI ((ω 121 43).toNatClampNeg))]) (congrArg (fun z : Int32 => ([Value.int z] : List Value)) (hmi.2.1).1) ?_
    refine g_istore_n (lv' := [(3, .int (nI ((ω 121 43).toNatClampNeg))), (0, .ref (ad 120)), (1, .int t), (2, .int d)]) C dX8_plans_19 rfl (by decide) rfl ?_
    refine gv_lv (lv' := [(0, .ref (ad 120)), (1, .int t), (2, .int d), (3, .int (nI ((ω 121 43).toNatClampNeg)))]) [1, 2, 3, 0] rfl ?_
    exact k_X8_plans_20 (13) t d  C hret hlk ((ω 121 43).toNatClampNeg) ω hmi (hnew h1) (hnew h1) (Nat.lt_of_le_of_lt (hnew h1) (by decide)) _ _ e1 (e2.trans (congrArg (mk X ad) ((if_pos h1).trans rfl)))
theorem isBurner_bad {x : Int32} {ω : Mem} (h : x < 0 ∨ 4 ≤ x) : f_X8_isBurner x ω = 0 := by
  unfold f_X8_isBurner f_X8_in
  by_cases h1 : x < 0
  · rw [if_pos h1]
  · rw [if_neg h1]
    have h2 := h.resolve_left h1
    have h3 : (3 : Int32) < x := by
      rw [Int32.lt_iff_toInt_lt]
      rw [Int32.le_iff_toInt_le] at h2
      have e3 : (3 : Int32).toInt = 3 := rfl
      have e4 : (4 : Int32).toInt = 4 := rfl
      omega
    rw [if_pos h3]
theorem inW_bad {x a b : Int32} {ω : Mem} (h : x < a ∨ b < x) : f_X8_in x a b ω = 0 := by
  unfold f_X8_in
  by_cases h1 : x < a
  · rw [if_pos h1]
  · rw [if_neg h1, if_pos (h.resolve_left h1)]
theorem in_rg {w b : Int32} {n : Nat} {ω : Mem} (hb : b.toInt = n) (h : ¬ f_X8_in w 0 b ω = 0) : rg w n := by
  unfold f_X8_in at h
  by_cases h1 : w < 0
  · rw [if_pos h1] at h
    exact absurd rfl h
  · rw [if_neg h1] at h
    by_cases h2 : b < w
    · rw [if_pos h2] at h
      exact absurd rfl h
    · obtain ⟨j, hj, rfl⟩ := nI_of h1
      rw [Int32.lt_iff_toInt_lt, nI_toInt hj] at h2
      exact ⟨by rw [nI_clamp hj], by rw [nI_clamp hj]; omega⟩
theorem rg_pred {x : Int32} {n : Nat} (h : rg x (n + 1)) (hn : n < 2 ^ 30) (hx : ¬ x = 0) : rg (x - 1) n := by
  have h1 := h.1
  have h2 := h.2
  have h0 : x.toNatClampNeg ≠ 0 := fun e => hx (by rw [h1, e]; rfl)
  have e : x - 1 = nI (x.toNatClampNeg - 1) := by
    conv => lhs; rw [h1]
    exact pk_sub (a := x.toNatClampNeg) (b := 1) (by omega)
  rw [e]
  exact rg_of (by omega) (by omega)
theorem rg_ltn {x y : Int32} {n : Nat} (h0 : ¬ x < 0) (h1 : x < y) (hy : rg y n) (hn : n < 2 ^ 30) : x = nI x.toNatClampNeg ∧ x.toNatClampNeg < y.toNatClampNeg := by
  obtain ⟨j, hj, rfl⟩ := nI_of h0
  rw [hy.1] at h1
  have := (nI_ltI hj (by have := hy.2; omega)).mp h1
  rw [nI_clamp hj]
  exact ⟨rfl, this⟩
theorem rg_lt {x y : Int32} {n : Nat} (h0 : ¬ x < 0) (h1 : x < y) (hy : rg y n) (hn : n < 2 ^ 30) : rg x n := by
  have h := rg_ltn h0 h1 hy hn
  exact ⟨h.1, by have := hy.2; omega⟩
theorem in_rg4 {w : Int32} {ω : Mem} (h : ¬ f_X8_in w 4 7 ω = 0) : rg w 7 ∧ 4 ≤ w.toNatClampNeg := by
  unfold f_X8_in at h
  by_cases h1 : w < 4
  · rw [if_pos h1] at h
    exact absurd rfl h
  · rw [if_neg h1] at h
    by_cases h2 : (7 : Int32) < w
    · rw [if_pos h2] at h
      exact absurd rfl h
    · rw [Int32.lt_iff_toInt_lt] at h1 h2
      have e4 : (4 : Int32).toInt = 4 := rfl
      have e7 : (7 : Int32).toInt = 7 := rfl
      obtain ⟨j, hj, rfl⟩ := nI_of (x := w) (fun z => by rw [Int32.lt_iff_toInt_lt] at z; have : (0 : Int32).toInt = 0 := rfl; omega)
      rw [nI_toInt hj] at h1 h2
      exact ⟨⟨by rw [nI_clamp hj], by rw [nI_clamp hj]; omega⟩, by rw [nI_clamp hj]; omega⟩
theorem choose_v (k a b c : Int32) (ω : Mem) : f_X8_choose k a b c ω = a ∨ f_X8_choose k a b c ω = b ∨ f_X8_choose k a b c ω = c := by
  unfold f_X8_choose
  by_cases h : k = 0
  · rw [if_pos h]; exact Or.inl rfl
  · rw [if_neg h]
    by_cases h2 : k = 1
    · rw [if_pos h2]; exact Or.inr (Or.inl rfl)
    · rw [if_neg h2]; exact Or.inr (Or.inr rfl)
theorem coolN (c j : Nat) (hc : 1 < c) (hc2 : c < 100) (hj : j < 2 ^ 20) : (if 0 ≤ ((nI j - (nI j / nI c)) - 1) then ((nI j - (nI j / nI c)) - 1) else 0) = nI (j - j / c - 1) := by
  rw [pk_div (by omega) (by omega) (by omega)]
  have hd : j / c ≤ j := Nat.div_le_self _ _
  generalize j / c = d at hd ⊢
  rw [pk_sub hd]
  by_cases h : j - d = 0
  · rw [h]
    decide
  · have e : nI (j - d) - 1 = nI (j - d - 1) := pk_sub (a := j - d) (b := 1) (by omega)
    rw [e, if_pos (nI_pos' (by omega))]
theorem cooled_nat (k : Int32) (j : Nat) (hj : j < 2 ^ 20) (ω : Mem) : ∃ c : Nat, 1 < c ∧ c < 100 ∧ f_X8_choose k 10 14 20 ω = nI c ∧ f_X8_cooled k (nI j) 0 ω = nI (j - j / c - 1) := by
  unfold f_X8_cooled
  rcases choose_v k 10 14 20 ω with h | h | h <;> rw [h]
  · exact ⟨10, by decide, by decide, rfl, coolN 10 j (by decide) (by decide) hj⟩
  · exact ⟨14, by decide, by decide, rfl, coolN 14 j (by decide) (by decide) hj⟩
  · exact ⟨20, by decide, by decide, rfl, coolN 20 j (by decide) (by decide) hj⟩
theorem cooled_lt {k v : Int32} {ω : Mem} (h : rg v 1000) (h0 : 0 < v.toNatClampNeg) : rg (f_X8_cooled k v 0 ω) 1000 ∧ (f_X8_cooled k v 0 ω).toNatClampNeg < v.toNatClampNeg := by
  have h2 := h.2
  obtain ⟨c, -, -, -, e⟩ := cooled_nat k v.toNatClampNeg (by omega) ω
  rw [← h.1] at e
  have hd : v.toNatClampNeg / c ≤ v.toNatClampNeg := Nat.div_le_self _ _
  rw [e]
  generalize v.toNatClampNeg / c = d at hd ⊢
  rw [nI_clamp (by omega)]
  exact ⟨rg_of (by omega) (by omega), by omega⟩
theorem pos_of_ge {v t : Int32} (h : ¬ v < t) (ht : 1 ≤ t.toInt) : 0 < v.toNatClampNeg := by
  rw [Int32.lt_iff_toInt_lt] at h
  unfold Int32.toNatClampNeg
  omega
abbrev rm_X8_isSetting : Room := { frames := 1, cells := 0, slots := 0, locals := 22 }
theorem md_X8_isSetting : yX8_isSetting.cls = RX8 ∧ yX8_isSetting.cls ≠ "java/lang/invoke/MethodHandle" ∧ yX8_isSetting.cls ≠ "java/lang/invoke/VarHandle" ∧ (parseMethodDescriptor yX8_isSetting.desc).map (fun d => d.parameters.length) = some 2 := by decide +kernel
def f_X8_isSetting (w : Int32) (v : Int32) (ω : Mem) : Int32 := (if w = 0 then (f_X8_in v 100 450 ω) else (if w = 1 then (f_X8_in v 1 20 ω) else (if w = 2 then (f_X8_in v 0 50 ω) else (f_X8_in v 50 1000 ω))))
set_option maxRecDepth 100000 in
set_option maxHeartbeats 4000000 in
theorem c_X8_isSetting {l_ : Launch} {sa : Nat → Nat} {D : va_G} {X : Nat → ClassId} {ad : Nat → Nat} (w : Int32) (v : Int32) (ω : Mem)  : CT l_ yX8_isSetting wsX8_isSetting rm_X8_isSetting sa D (tyX X) 128 ad (mk X ad ω) [.int w, .int v] (some (.int (f_X8_isSetting w v ω)) : Option Value) (mk X ad ω) := by
  refine ct_of [(0, .int w), (1, .int v)] (by decide +kernel) rfl rfl (Nat.le_of_ble_eq_true rfl) rfl ?_
  intro p_ e_ s_ m_ args_ below_ meth_ c_ C hret hlk hin
  have e1 : (some (.int (f_X8_isSetting w v ω)) : Option Value) = (some (.int (f_X8_isSetting w v ω)) : Option Value) := rfl
  have e2 : mk X ad ω = mk X ad ω := rfl
  refine g_iload_n C dX8_isSetting_0 rfl 0 rfl ?_
  by_cases h1 : w = 0
  · refine g_tabIn (tgt := 28) C dX8_isSetting_1 (by rw [h1]; decide) (by rw [h1]; decide) (by rw [h1]; rfl) (by decide) ?_
    refine g_iload_n C dX8_isSetting_28 rfl 1 rfl ?_
    refine g_bipush (v := 100) C dX8_isSetting_29 (by decide) ?_
    refine g_sipush (v := 450) C dX8_isSetting_31 (by decide) ?_
    refine g_callS (rest := []) (st1 := [.int (f_X8_in v 100 450 ω)]) C (c_X8_in v 100 450 ω) (va_cwS 3 C.hts gX8_isSetting_X8_in rfl rfl rfl md_X8_in.2 ⟨Nat.le_of_ble_eq_true rfl, Nat.le_of_ble_eq_true rfl⟩) rfl rfl rfl (Nat.le_of_ble_eq_true rfl) dX8_isSetting_34 (Nat.zero_le _) (Nat.zero_le _) ?_
    exact g_zret C hret hlk (nar_b (z_X8_in ..)).1 (e1.trans (congrArg (fun z => some (Value.int z)) ((if_pos h1).trans rfl))) e2 dX8_isSetting_37
  · by_cases h2 : w = 1
    · refine g_tabIn (tgt := 38) C dX8_isSetting_1 (by rw [h2]; decide) (by rw [h2]; decide) (by rw [h2]; rfl) (by decide) ?_
      refine g_iload_n C dX8_isSetting_38 rfl 1 rfl ?_
      refine g_iconst (v := 1) C dX8_isSetting_39 (by decide) ?_
      refine g_bipush (v := 20) C dX8_isSetting_40 (by decide) ?_
      refine g_callS (rest := []) (st1 := [.int (f_X8_in v 1 20 ω)]) C (c_X8_in v 1 20 ω) (va_cwS 3 C.hts gX8_isSetting_X8_in rfl rfl rfl md_X8_in.2 ⟨Nat.le_of_ble_eq_true rfl, Nat.le_of_ble_eq_true rfl⟩) rfl rfl rfl (Nat.le_of_ble_eq_true rfl) dX8_isSetting_42 (Nat.zero_le _) (Nat.zero_le _) ?_
      exact g_zret C hret hlk (nar_b (z_X8_in ..)).1 (e1.trans (congrArg (fun z => some (Value.int z)) ((if_neg h1).trans ((if_pos h2).trans rfl)))) e2 dX8_isSetting_45
    · by_cases h3 : w = 2
      · refine g_tabIn (tgt := 46) C dX8_isSetting_1 (by rw [h3]; decide) (by rw [h3]; decide) (by rw [h3]; rfl) (by decide) ?_
        refine g_iload_n C dX8_isSetting_46 rfl 1 rfl ?_
        refine g_iconst (v := 0) C dX8_isSetting_47 (by decide) ?_
        refine g_bipush (v := 50) C dX8_isSetting_48 (by decide) ?_
        refine g_callS (rest := []) (st1 := [.int (f_X8_in v 0 50 ω)]) C (c_X8_in v 0 50 ω) (va_cwS 3 C.hts gX8_isSetting_X8_in rfl rfl rfl md_X8_in.2 ⟨Nat.le_of_ble_eq_true rfl, Nat.le_of_ble_eq_true rfl⟩) rfl rfl rfl (Nat.le_of_ble_eq_true rfl) dX8_isSetting_50 (Nat.zero_le _) (Nat.zero_le _) ?_
        exact g_zret C hret hlk (nar_b (z_X8_in ..)).1 (e1.trans (congrArg (fun z => some (Value.int z)) ((if_neg h1).trans ((if_neg h2).trans ((if_pos h3).trans rfl))))) e2 dX8_isSetting_53
      · refine g_tabOut (tgt := 54) C dX8_isSetting_1 (tab_out 0 2 (fun k hk hz => by
          rcases (show k = 0 ∨ k = 1 ∨ k = 2 by omega) with rfl | rfl | rfl
          · exact h1 (Int32.toInt_inj.mp (hz.trans (by decide)))
          · exact h2 (Int32.toInt_inj.mp (hz.trans (by decide)))
          · exact h3 (Int32.toInt_inj.mp (hz.trans (by decide)))
          )) (by decide) ?_
        refine g_iload_n C dX8_isSetting_54 rfl 1 rfl ?_
        refine g_bipush (v := 50) C dX8_isSetting_55 (by decide) ?_
        refine g_sipush (v := 1000) C dX8_isSetting_57 (by decide) ?_
        refine g_callS (rest := []) (st1 := [.int (f_X8_in v 50 1000 ω)]) C (c_X8_in v 50 1000 ω) (va_cwS 3 C.hts gX8_isSetting_X8_in rfl rfl rfl md_X8_in.2 ⟨Nat.le_of_ble_eq_true rfl, Nat.le_of_ble_eq_true rfl⟩) rfl rfl rfl (Nat.le_of_ble_eq_true rfl) dX8_isSetting_60 (Nat.zero_le _) (Nat.zero_le _) ?_
        exact g_zret C hret hlk (nar_b (z_X8_in ..)).1 (e1.trans (congrArg (fun z => some (Value.int z)) ((if_neg h1).trans ((if_neg h2).trans ((if_neg h3).trans rfl))))) e2 dX8_isSetting_63
theorem z_X8_isSetting {w : Int32} {v : Int32} {ω : Mem} : bb (f_X8_isSetting w v ω) = f_X8_isSetting w v ω := by
  unfold f_X8_isSetting
  repeat' split
  all_goals first | with_reducible exact z_X8_in | with_reducible exact bb_bb _ | decide
abbrev rm_X8_set : Room := { frames := 2, cells := 0, slots := 0, locals := 43 }
theorem md_X8_set : yX8_set.cls = RX8 ∧ yX8_set.cls ≠ "java/lang/invoke/MethodHandle" ∧ yX8_set.cls ≠ "java/lang/invoke/VarHandle" ∧ (parseMethodDescriptor yX8_set.desc).map (fun d => d.parameters.length) = some 2 := by decide +kernel
def f_X8_set_5 (w : Int32) (v : Int32) (ω : Mem) : Int32 × Mem := (if (f_X8_in w 0 3 ω) = 0 then ((-1), ω) else (if (f_X8_isSetting w v ω) = 0 then ((-2), ω) else (if (ω 121 w.toNatClampNeg) = v then ((-5), ω) else ((ω 121 w.toNatClampNeg), (st (f_X8_records ω) 121 w.toNatClampNeg v)))))
set_option maxRecDepth 100000 in
set_option maxHeartbeats 4000000 in
theorem k_X8_set_5 {l_ : Launch} {p_ : Program} {e_ : Env} {s_ : State} {m_ : MethodId} {args_ : Array Value} {below_ : List Frame} {meth_ : Method} {c_ : Code} {sa : Nat → Nat} {D : va_G} {X : Nat → ClassId} {ad : Nat → Nat} {G0 : Nat → va_E} (w : Int32) (v : Int32) (C : GC p_ rm_X8_set s_ m_ args_ meth_ c_ cX8_set 4 wsX8_set RX8 sa D (tyX X) (va_A (gw 128 ad G0) s_.heap.size)) (hret : meth_.sig.returnType = (some .int)) (hlk : meth_.locks = false) : ∀  (ω : Mem) (hmi : MIn 10 ω) (rv : Option Value) (G2 : Nat → va_E) (e1 : rv = some (.int (f_X8_set_5 w v ω).1)) (e2 : G2 = mk X ad (f_X8_set_5 w v ω).2), GV p_ l_ e_ rm_X8_set s_ m_ args_ below_ meth_ c_ 0 0 (CQ below_ args_ s_ D 128 ad G0 rv G2) D (va_A (gw 128 ad G0) s_.heap.size) 4 128 ad (mk X ad ω) [(0, .ref (ad 120)), (1, .int w), (2, .int v)] 5 [] := by
  have iX8 : ∀ w ∈ u_ws RX8 TX8 14, w ∈ wsX8_set := by decide +kernel
  have L7 : Cond.fieldLink RX8 7 (TX8 1).1 (TX8 1).2.1 (TX8 1).2.2.1 ∈ wsX8_set := by decide +kernel
  intro ω hmi rv G2 e1 e2
  refine g_iload_n C dX8_set_5 rfl 1 rfl ?_
  refine g_iconst (v := 0) C dX8_set_6 (by decide) ?_
  refine g_iconst (v := 3) C dX8_set_7 (by decide) ?_
  refine g_callS (rest := []) (st1 := [.int (f_X8_in w 0 3 ω)]) C (c_X8_in w 0 3 ω) (va_cwS 3 C.hts gX8_set_X8_in rfl rfl rfl md_X8_in.2 ⟨Nat.le_of_ble_eq_true rfl, Nat.le_of_ble_eq_true rfl⟩) rfl rfl rfl (Nat.le_of_ble_eq_true rfl) dX8_set_8 (Nat.zero_le _) (Nat.zero_le _) ?_
  refine g_if_ne (tgt := 16) C dX8_set_11 (by decide) (fun h1 => ?_) (fun h1 => ?_)
  · refine g_iload_n C dX8_set_16 rfl 1 rfl ?_
    refine g_iload_n C dX8_set_17 rfl 2 rfl ?_
    refine g_callS (rest := []) (st1 := [.int (f_X8_isSetting w v ω)]) C (c_X8_isSetting w v ω) (va_cwS 2 C.hts gX8_set_X8_isSetting rfl rfl rfl md_X8_isSetting.2 ⟨Nat.le_of_ble_eq_true rfl, Nat.le_of_ble_eq_true rfl⟩) rfl rfl rfl (Nat.le_of_ble_eq_true rfl) dX8_set_18 (Nat.zero_le _) (Nat.zero_le _) ?_
    refine g_if_ne (tgt := 27) C dX8_set_21 (by decide) (fun h2 => ?_) (fun h2 => ?_)
    · refine g_aload_n C dX8_set_27 rfl 0 rfl ?_
      refine g_get (v := .ref (ad 121)) C iX8 (by decide) (mk_11 (by decide)) rfl 1 (by decide) L7 rfl dX8_set_28 ?_
      refine g_iload_n C dX8_set_31 rfl 1 rfl ?_
      refine g_iald (k := w.toNatClampNeg) C 0 (by decide) (mk_12n (N := 108) (by decide) (by decide)) rfl (in_in h1) rfl dX8_set_32 ?_
      refine g_istore_n (lv' := [(3, .int (ω 121 w.toNatClampNeg)), (0, .ref (ad 120)), (1, .int w), (2, .int v)]) C dX8_set_33 rfl (by decide) rfl ?_
      refine g_iload_n C dX8_set_34 rfl 0 rfl ?_
      refine g_iload_n C dX8_set_35 rfl 3 rfl ?_
      refine g_icmp_ne (tgt := 42) C dX8_set_36 (by decide) (fun h3 => ?_) (fun h3 => ?_)
      · refine g_aload_n C dX8_set_42 rfl 1 rfl ?_
        refine g_callV (rest := []) (st1 := []) C (c_X8_records ω hmi) (cwV 0 C.hts gX8_set_X8_records rfl rfl rfl md_X8_records ⟨Nat.le_of_ble_eq_true rfl, Nat.le_of_ble_eq_true rfl⟩) (by decide) (mk_11 (by decide)) rfl rfl rfl rfl rfl (Nat.le_of_ble_eq_true rfl) dX8_set_43 (Nat.zero_le _) (Nat.zero_le _) ?_
        refine g_aload_n C dX8_set_46 rfl 1 rfl ?_
        refine g_get (v := .ref (ad 121)) C iX8 (by decide) (mk_11 (by decide)) rfl 1 (by decide) L7 rfl dX8_set_47 ?_
        refine g_iload_n C dX8_set_50 rfl 2 rfl ?_
        refine g_iload_n C dX8_set_51 rfl 3 rfl ?_
        refine g_iast (k := w.toNatClampNeg) C 0 (by decide) (mk_12n (N := 108) (by decide) (by decide)) rfl (in_in h1) rfl dX8_set_52 ?_
        refine gv_eqG (mk_row (N := 108) (by decide) (by decide)) ?_
        refine g_iload_n C dX8_set_53 rfl 0 rfl ?_
        exact g_iret C hret hlk (e1.trans (pr1 (v := (ω 121 w.toNatClampNeg)) (w := (st (f_X8_records ω) 121 w.toNatClampNeg v)) ((if_neg h1).trans ((if_neg h2).trans ((if_neg h3).trans rfl))))) (e2.trans (pr2 (v := (ω 121 w.toNatClampNeg)) (w := (st (f_X8_records ω) 121 w.toNatClampNeg v)) ((if_neg h1).trans ((if_neg h2).trans ((if_neg h3).trans rfl))))) dX8_set_54
      · refine g_bipush (v := (-5)) C dX8_set_39 (by decide) ?_
        exact g_iret C hret hlk (e1.trans (pr1 (v := (-5)) (w := ω) ((if_neg h1).trans ((if_neg h2).trans ((if_pos h3).trans rfl))))) (e2.trans (pr2 (v := (-5)) (w := ω) ((if_neg h1).trans ((if_neg h2).trans ((if_pos h3).trans rfl))))) dX8_set_41
    · refine g_bipush (v := (-2)) C dX8_set_24 (by decide) ?_
      exact g_iret C hret hlk (e1.trans (pr1 (v := (-2)) (w := ω) ((if_neg h1).trans ((if_pos h2).trans rfl)))) (e2.trans (pr2 (v := (-2)) (w := ω) ((if_neg h1).trans ((if_pos h2).trans rfl)))) dX8_set_26
  · refine g_iconst (v := (-1)) C dX8_set_14 (by decide) ?_
    exact g_iret C hret hlk (e1.trans (pr1 (v := (-1)) (w := ω) ((if_pos h1).trans rfl))) (e2.trans (pr2 (v := (-1)) (w := ω) ((if_pos h1).trans rfl))) dX8_set_15
def f_X8_set (w : Int32) (v : Int32) (ω : Mem) : Int32 × Mem := (f_X8_set_5 w v (st ω 120 0 0))
set_option maxRecDepth 100000 in
set_option maxHeartbeats 4000000 in
theorem c_X8_set {l_ : Launch} {sa : Nat → Nat} {D : va_G} {X : Nat → ClassId} {ad : Nat → Nat} (w : Int32) (v : Int32) (ω : Mem) (hmi : MIn 10 ω) : CT l_ yX8_set wsX8_set rm_X8_set sa D (tyX X) 128 ad (mk X ad ω) [.ref (ad 120), .int w, .int v] (some (.int (f_X8_set w v ω).1) : Option Value) (mk X ad (f_X8_set w v ω).2) := by
  refine ct_of [(0, .ref (ad 120)), (1, .int w), (2, .int v)] (by decide +kernel) rfl rfl (Nat.le_of_ble_eq_true rfl) rfl ?_
  intro p_ e_ s_ m_ args_ below_ meth_ c_ C hret hlk hin
  have e1 : (some (.int (f_X8_set w v ω).1) : Option Value) = (some (.int (f_X8_set w v ω).1) : Option Value) := rfl
  have e2 : mk X ad (f_X8_set w v ω).2 = mk X ad (f_X8_set w v ω).2 := rfl
  have iX8 : ∀ w ∈ u_ws RX8 TX8 14, w ∈ wsX8_set := by decide +kernel
  have L31 : Cond.fieldLink RX8 31 (TX8 0).1 (TX8 0).2.1 (TX8 0).2.2.1 ∈ wsX8_set := by decide +kernel
  refine g_aload_n C dX8_set_0 rfl 0 rfl ?_
  refine g_iconst (v := 0) C dX8_set_1 (by decide) ?_
  refine g_put C iX8 tyX8 tyX8_ok nmX8 (by decide) (mk_11 (by decide)) rfl 0 (by decide) L31 rfl rfl rfl (Nat.le_of_ble_eq_true rfl) dX8_set_2 ?_
  refine gv_eqG (mkp_11_0 (by decide)) ?_
  exact k_X8_set_5 w v  C hret hlk  (st ω 120 0 0) (MIn_f hmi (by decide)) _ _ (e1.trans (congrArg (fun z : Int32 × Mem => some (Value.int z.1)) rfl)) (e2.trans (congrArg (fun z : Int32 × Mem => mk X ad z.2) rfl))
abbrev rm_X8_setKind : Room := { frames := 2, cells := 0, slots := 0, locals := 42 }
theorem md_X8_setKind : yX8_setKind.cls = RX8 ∧ yX8_setKind.cls ≠ "java/lang/invoke/MethodHandle" ∧ yX8_setKind.cls ≠ "java/lang/invoke/VarHandle" ∧ (parseMethodDescriptor yX8_setKind.desc).map (fun d => d.parameters.length) = some 2 := by decide +kernel
def f_X8_setKind_5 (k : Nat) (v : Int32) (ω : Mem) : Int32 × Mem := (if (f_X8_isBurner (nI (k)) ω) = 0 then ((-1), ω) else (if (f_X8_in v 0 2 ω) = 0 then ((-2), ω) else (if (f_X8_get k 1 ω) = 0 then (if (f_X8_get k 0 ω) = v then ((-5), ω) else ((f_X8_get k 0 ω), (f_X8_lay k 0 v (f_X8_records ω)))) else ((-4), ω))))
set_option maxRecDepth 100000 in
set_option maxHeartbeats 4000000 in
theorem k_X8_setKind_5 {l_ : Launch} {p_ : Program} {e_ : Env} {s_ : State} {m_ : MethodId} {args_ : Array Value} {below_ : List Frame} {meth_ : Method} {c_ : Code} {sa : Nat → Nat} {D : va_G} {X : Nat → ClassId} {ad : Nat → Nat} {G0 : Nat → va_E} (k : Nat) (v : Int32) (hk : k < 4) (C : GC p_ rm_X8_setKind s_ m_ args_ meth_ c_ cX8_setKind 4 wsX8_setKind RX8 sa D (tyX X) (va_A (gw 128 ad G0) s_.heap.size)) (hret : meth_.sig.returnType = (some .int)) (hlk : meth_.locks = false) : ∀  (ω : Mem) (hmi : MIn 10 ω) (rv : Option Value) (G2 : Nat → va_E) (e1 : rv = some (.int (f_X8_setKind_5 k v ω).1)) (e2 : G2 = mk X ad (f_X8_setKind_5 k v ω).2), GV p_ l_ e_ rm_X8_setKind s_ m_ args_ below_ meth_ c_ 0 0 (CQ below_ args_ s_ D 128 ad G0 rv G2) D (va_A (gw 128 ad G0) s_.heap.size) 4 128 ad (mk X ad ω) [(0, .ref (ad 120)), (1, .int (nI (k))), (2, .int v)] 5 [] := by
  intro ω hmi rv G2 e1 e2
  refine g_iload_n C dX8_setKind_5 rfl 1 rfl ?_
  refine g_callS (rest := []) (st1 := [.int (f_X8_isBurner (nI (k)) ω)]) C (c_X8_isBurner (nI (k)) ω) (va_cwS 1 C.hts gX8_setKind_X8_isBurner rfl rfl rfl md_X8_isBurner.2 ⟨Nat.le_of_ble_eq_true rfl, Nat.le_of_ble_eq_true rfl⟩) rfl rfl rfl (Nat.le_of_ble_eq_true rfl) dX8_setKind_6 (Nat.zero_le _) (Nat.zero_le _) ?_
  refine g_if_ne (tgt := 14) C dX8_setKind_9 (by decide) (fun h1 => ?_) (fun h1 => ?_)
  · refine g_iload_n C dX8_setKind_14 rfl 2 rfl ?_
    refine g_iconst (v := 0) C dX8_setKind_15 (by decide) ?_
    refine g_iconst (v := 2) C dX8_setKind_16 (by decide) ?_
    refine g_callS (rest := []) (st1 := [.int (f_X8_in v 0 2 ω)]) C (c_X8_in v 0 2 ω) (va_cwS 3 C.hts gX8_setKind_X8_in rfl rfl rfl md_X8_in.2 ⟨Nat.le_of_ble_eq_true rfl, Nat.le_of_ble_eq_true rfl⟩) rfl rfl rfl (Nat.le_of_ble_eq_true rfl) dX8_setKind_17 (Nat.zero_le _) (Nat.zero_le _) ?_
    refine g_if_ne (tgt := 26) C dX8_setKind_20 (by decide) (fun h2 => ?_) (fun h2 => ?_)
    · refine g_aload_n C dX8_setKind_26 rfl 0 rfl ?_
      refine g_iload_n C dX8_setKind_27 rfl 1 rfl ?_
      refine g_iconst (v := 1) C dX8_setKind_28 (by decide) ?_
      refine g_callV (rest := []) (st1 := [.int (f_X8_get k 1 ω)]) C (c_X8_get k 1 (by omega) (by omega) ω) (cwV 2 C.hts gX8_setKind_X8_get rfl rfl rfl md_X8_get ⟨Nat.le_of_ble_eq_true rfl, Nat.le_of_ble_eq_true rfl⟩) (by decide) (mk_11 (by decide)) rfl rfl rfl rfl rfl (Nat.le_of_ble_eq_true rfl) dX8_setKind_29 (Nat.zero_le _) (Nat.zero_le _) ?_
      refine g_if_eq (tgt := 38) C dX8_setKind_32 (by decide) (fun h3 => ?_) (fun h3 => ?_)
      · refine g_aload_n C dX8_setKind_38 rfl 0 rfl ?_
        refine g_iload_n C dX8_setKind_39 rfl 1 rfl ?_
        refine g_iconst (v := 0) C dX8_setKind_40 (by decide) ?_
        refine g_callV (rest := []) (st1 := [.int (f_X8_get k 0 ω)]) C (c_X8_get k 0 (by omega) (by omega) ω) (cwV 2 C.hts gX8_setKind_X8_get rfl rfl rfl md_X8_get ⟨Nat.le_of_ble_eq_true rfl, Nat.le_of_ble_eq_true rfl⟩) (by decide) (mk_11 (by decide)) rfl rfl rfl rfl rfl (Nat.le_of_ble_eq_true rfl) dX8_setKind_41 (Nat.zero_le _) (Nat.zero_le _) ?_
        refine g_istore_n (lv' := [(3, .int (f_X8_get k 0 ω)), (0, .ref (ad 120)), (1, .int (nI (k))), (2, .int v)]) C dX8_setKind_44 rfl (by decide) rfl ?_
        refine g_iload_n C dX8_setKind_45 rfl 0 rfl ?_
        refine g_iload_n C dX8_setKind_46 rfl 3 rfl ?_
        refine g_icmp_ne (tgt := 53) C dX8_setKind_47 (by decide) (fun h4 => ?_) (fun h4 => ?_)
        · refine g_aload_n C dX8_setKind_53 rfl 1 rfl ?_
          refine g_callV (rest := []) (st1 := []) C (c_X8_records ω hmi) (cwV 0 C.hts gX8_setKind_X8_records rfl rfl rfl md_X8_records ⟨Nat.le_of_ble_eq_true rfl, Nat.le_of_ble_eq_true rfl⟩) (by decide) (mk_11 (by decide)) rfl rfl rfl rfl rfl (Nat.le_of_ble_eq_true rfl) dX8_setKind_54 (Nat.zero_le _) (Nat.zero_le _) ?_
          refine g_aload_n C dX8_setKind_57 rfl 1 rfl ?_
          refine g_iload_n C dX8_setKind_58 rfl 2 rfl ?_
          refine g_iconst (v := 0) C dX8_setKind_59 (by decide) ?_
          refine g_iload_n C dX8_setKind_60 rfl 3 rfl ?_
          refine g_callV (rest := []) (st1 := []) C (c_X8_lay k 0 v (by omega) (by omega) (f_X8_records ω) (mi_X8_records ω hmi)) (cwV 3 C.hts gX8_setKind_X8_lay rfl rfl rfl md_X8_lay ⟨Nat.le_of_ble_eq_true rfl, Nat.le_of_ble_eq_true rfl⟩) (by decide) (mk_11 (by decide)) rfl rfl rfl rfl rfl (Nat.le_of_ble_eq_true rfl) dX8_setKind_61 (Nat.zero_le _) (Nat.zero_le _) ?_
          refine g_iload_n C dX8_setKind_64 rfl 0 rfl ?_
          exact g_iret C hret hlk (e1.trans (pr1 (v := (f_X8_get k 0 ω)) (w := (f_X8_lay k 0 v (f_X8_records ω))) ((if_neg h1).trans ((if_neg h2).trans ((if_pos h3).trans ((if_neg h4).trans rfl)))))) (e2.trans (pr2 (v := (f_X8_get k 0 ω)) (w := (f_X8_lay k 0 v (f_X8_records ω))) ((if_neg h1).trans ((if_neg h2).trans ((if_pos h3).trans ((if_neg h4).trans rfl)))))) dX8_setKind_65
        · refine g_bipush (v := (-5)) C dX8_setKind_50 (by decide) ?_
          exact g_iret C hret hlk (e1.trans (pr1 (v := (-5)) (w := ω) ((if_neg h1).trans ((if_neg h2).trans ((if_pos h3).trans ((if_pos h4).trans rfl)))))) (e2.trans (pr2 (v := (-5)) (w := ω) ((if_neg h1).trans ((if_neg h2).trans ((if_pos h3).trans ((if_pos h4).trans rfl)))))) dX8_setKind_52
      · refine g_bipush (v := (-4)) C dX8_setKind_35 (by decide) ?_
        exact g_iret C hret hlk (e1.trans (pr1 (v := (-4)) (w := ω) ((if_neg h1).trans ((if_neg h2).trans ((if_neg h3).trans rfl))))) (e2.trans (pr2 (v := (-4)) (w := ω) ((if_neg h1).trans ((if_neg h2).trans ((if_neg h3).trans rfl))))) dX8_setKind_37
    · refine g_bipush (v := (-2)) C dX8_setKind_23 (by decide) ?_
      exact g_iret C hret hlk (e1.trans (pr1 (v := (-2)) (w := ω) ((if_neg h1).trans ((if_pos h2).trans rfl)))) (e2.trans (pr2 (v := (-2)) (w := ω) ((if_neg h1).trans ((if_pos h2).trans rfl)))) dX8_setKind_25
  · refine g_iconst (v := (-1)) C dX8_setKind_12 (by decide) ?_
    exact g_iret C hret hlk (e1.trans (pr1 (v := (-1)) (w := ω) ((if_pos h1).trans rfl))) (e2.trans (pr2 (v := (-1)) (w := ω) ((if_pos h1).trans rfl))) dX8_setKind_13
def f_X8_setKind (k : Nat) (v : Int32) (ω : Mem) : Int32 × Mem := (f_X8_setKind_5 k v (st ω 120 0 0))
set_option maxRecDepth 100000 in
set_option maxHeartbeats 4000000 in
theorem c_X8_setKind {l_ : Launch} {sa : Nat → Nat} {D : va_G} {X : Nat → ClassId} {ad : Nat → Nat} (k : Nat) (v : Int32) (hk : k < 4) (ω : Mem) (hmi : MIn 10 ω) : CT l_ yX8_setKind wsX8_setKind rm_X8_setKind sa D (tyX X) 128 ad (mk X ad ω) [.ref (ad 120), .int (nI (k)), .int v] (some (.int (f_X8_setKind k v ω).1) : Option Value) (mk X ad (f_X8_setKind k v ω).2) := by
  refine ct_of [(0, .ref (ad 120)), (1, .int (nI (k))), (2, .int v)] (by decide +kernel) rfl rfl (Nat.le_of_ble_eq_true rfl) rfl ?_
  intro p_ e_ s_ m_ args_ below_ meth_ c_ C hret hlk hin
  have e1 : (some (.int (f_X8_setKind k v ω).1) : Option Value) = (some (.int (f_X8_setKind k v ω).1) : Option Value) := rfl
  have e2 : mk X ad (f_X8_setKind k v ω).2 = mk X ad (f_X8_setKind k v ω).2 := rfl
  have iX8 : ∀ w ∈ u_ws RX8 TX8 14, w ∈ wsX8_setKind := by decide +kernel
  have L31 : Cond.fieldLink RX8 31 (TX8 0).1 (TX8 0).2.1 (TX8 0).2.2.1 ∈ wsX8_setKind := by decide +kernel
  refine g_aload_n C dX8_setKind_0 rfl 0 rfl ?_
  refine g_iconst (v := 0) C dX8_setKind_1 (by decide) ?_
  refine g_put C iX8 tyX8 tyX8_ok nmX8 (by decide) (mk_11 (by decide)) rfl 0 (by decide) L31 rfl rfl rfl (Nat.le_of_ble_eq_true rfl) dX8_setKind_2 ?_
  refine gv_eqG (mkp_11_0 (by decide)) ?_
  exact k_X8_setKind_5 k v hk C hret hlk  (st ω 120 0 0) (MIn_f hmi (by decide)) _ _ (e1.trans (congrArg (fun z : Int32 × Mem => some (Value.int z.1)) rfl)) (e2.trans (congrArg (fun z : Int32 × Mem => mk X ad z.2) rfl))
def f_X8_setKindB (x : Int32) (v : Int32) (ω : Mem) : Int32 × Mem := ((-1), (st ω 120 0 0))
set_option maxRecDepth 100000 in
set_option maxHeartbeats 4000000 in
theorem c_X8_setKindB {l_ : Launch} {sa : Nat → Nat} {D : va_G} {X : Nat → ClassId} {ad : Nat → Nat} (x : Int32) (v : Int32) (hbad : x < 0 ∨ 4 ≤ x) (ω : Mem)  : CT l_ yX8_setKind wsX8_setKind rm_X8_setKind sa D (tyX X) 128 ad (mk X ad ω) [.ref (ad 120), .int x, .int v] (some (.int (f_X8_setKindB x v ω).1) : Option Value) (mk X ad (f_X8_setKindB x v ω).2) := by
  refine ct_of [(0, .ref (ad 120)), (1, .int x), (2, .int v)] (by decide +kernel) rfl rfl (Nat.le_of_ble_eq_true rfl) rfl ?_
  intro p_ e_ s_ m_ args_ below_ meth_ c_ C hret hlk hin
  have e1 : (some (.int (f_X8_setKindB x v ω).1) : Option Value) = (some (.int (f_X8_setKindB x v ω).1) : Option Value) := rfl
  have e2 : mk X ad (f_X8_setKindB x v ω).2 = mk X ad (f_X8_setKindB x v ω).2 := rfl
  have iX8 : ∀ w ∈ u_ws RX8 TX8 14, w ∈ wsX8_setKind := by decide +kernel
  have L31 : Cond.fieldLink RX8 31 (TX8 0).1 (TX8 0).2.1 (TX8 0).2.2.1 ∈ wsX8_setKind := by decide +kernel
  refine g_aload_n C dX8_setKind_0 rfl 0 rfl ?_
  refine g_iconst (v := 0) C dX8_setKind_1 (by decide) ?_
  refine g_put C iX8 tyX8 tyX8_ok nmX8 (by decide) (mk_11 (by decide)) rfl 0 (by decide) L31 rfl rfl rfl (Nat.le_of_ble_eq_true rfl) dX8_setKind_2 ?_
  refine gv_eqG (mkp_11_0 (by decide)) ?_
  refine g_iload_n C dX8_setKind_5 rfl 1 rfl ?_
  refine g_callS (rest := []) (st1 := [.int (f_X8_isBurner x (st ω 120 0 0))]) C (c_X8_isBurner x (st ω 120 0 0)) (va_cwS 1 C.hts gX8_setKind_X8_isBurner rfl rfl rfl md_X8_isBurner.2 ⟨Nat.le_of_ble_eq_true rfl, Nat.le_of_ble_eq_true rfl⟩) rfl rfl rfl (Nat.le_of_ble_eq_true rfl) dX8_setKind_6 (Nat.zero_le _) (Nat.zero_le _) ?_
  refine g_if_ne (tgt := 14) C dX8_setKind_9 (by decide) (fun z => absurd (isBurner_bad hbad) z) (fun _ => ?_)
  refine g_iconst (v := (-1)) C dX8_setKind_12 (by decide) ?_
  exact g_iret C hret hlk (e1.trans (pr1 (v := (-1)) (w := (st ω 120 0 0)) rfl)) (e2.trans (pr2 (v := (-1)) (w := (st ω 120 0 0)) rfl)) dX8_setKind_13
abbrev rm_X8_turn : Room := { frames := 2, cells := 0, slots := 0, locals := 42 }
theorem md_X8_turn : yX8_turn.cls = RX8 ∧ yX8_turn.cls ≠ "java/lang/invoke/MethodHandle" ∧ yX8_turn.cls ≠ "java/lang/invoke/VarHandle" ∧ (parseMethodDescriptor yX8_turn.desc).map (fun d => d.parameters.length) = some 2 := by decide +kernel
def f_X8_turn_5 (k : Nat) (v : Int32) (ω : Mem) : Int32 × Mem := (if (f_X8_isBurner (nI (k)) ω) = 0 then ((-1), ω) else (if (f_X8_in v 0 2 ω) = 0 then ((-2), ω) else (if (f_X8_get k 1 ω) = v then ((-5), ω) else (if v = 0 then ((f_X8_get k 1 ω), (f_X8_lay k 4 0 (f_X8_lay k 1 v (f_X8_records ω)))) else ((f_X8_get k 1 ω), (f_X8_lay k 4 (f_X8_get k 4 (f_X8_lay k 1 v (f_X8_records ω))) (f_X8_lay k 1 v (f_X8_records ω))))))))
set_option maxRecDepth 100000 in
set_option maxHeartbeats 4000000 in
theorem k_X8_turn_5 {l_ : Launch} {p_ : Program} {e_ : Env} {s_ : State} {m_ : MethodId} {args_ : Array Value} {below_ : List Frame} {meth_ : Method} {c_ : Code} {sa : Nat → Nat} {D : va_G} {X : Nat → ClassId} {ad : Nat → Nat} {G0 : Nat → va_E} (k : Nat) (v : Int32) (hk : k < 4) (C : GC p_ rm_X8_turn s_ m_ args_ meth_ c_ cX8_turn 4 wsX8_turn RX8 sa D (tyX X) (va_A (gw 128 ad G0) s_.heap.size)) (hret : meth_.sig.returnType = (some .int)) (hlk : meth_.locks = false) : ∀  (ω : Mem) (hmi : MIn 10 ω) (rv : Option Value) (G2 : Nat → va_E) (e1 : rv = some (.int (f_X8_turn_5 k v ω).1)) (e2 : G2 = mk X ad (f_X8_turn_5 k v ω).2), GV p_ l_ e_ rm_X8_turn s_ m_ args_ below_ meth_ c_ 0 0 (CQ below_ args_ s_ D 128 ad G0 rv G2) D (va_A (gw 128 ad G0) s_.heap.size) 4 128 ad (mk X ad ω) [(0, .ref (ad 120)), (1, .int (nI (k))), (2, .int v)] 5 [] := by
  intro ω hmi rv G2 e1 e2
  refine g_iload_n C dX8_turn_5 rfl 1 rfl ?_
  refine g_callS (rest := []) (st1 := [.int (f_X8_isBurner (nI (k)) ω)]) C (c_X8_isBurner (nI (k)) ω) (va_cwS 1 C.hts gX8_turn_X8_isBurner rfl rfl rfl md_X8_isBurner.2 ⟨Nat.le_of_ble_eq_true rfl, Nat.le_of_ble_eq_true rfl⟩) rfl rfl rfl (Nat.le_of_ble_eq_true rfl) dX8_turn_6 (Nat.zero_le _) (Nat.zero_le _) ?_
  refine g_if_ne (tgt := 14) C dX8_turn_9 (by decide) (fun h1 => ?_) (fun h1 => ?_)
  · refine g_iload_n C dX8_turn_14 rfl 2 rfl ?_
    refine g_iconst (v := 0) C dX8_turn_15 (by decide) ?_
    refine g_iconst (v := 2) C dX8_turn_16 (by decide) ?_
    refine g_callS (rest := []) (st1 := [.int (f_X8_in v 0 2 ω)]) C (c_X8_in v 0 2 ω) (va_cwS 3 C.hts gX8_turn_X8_in rfl rfl rfl md_X8_in.2 ⟨Nat.le_of_ble_eq_true rfl, Nat.le_of_ble_eq_true rfl⟩) rfl rfl rfl (Nat.le_of_ble_eq_true rfl) dX8_turn_17 (Nat.zero_le _) (Nat.zero_le _) ?_
    refine g_if_ne (tgt := 26) C dX8_turn_20 (by decide) (fun h2 => ?_) (fun h2 => ?_)
    · refine g_aload_n C dX8_turn_26 rfl 0 rfl ?_
      refine g_iload_n C dX8_turn_27 rfl 1 rfl ?_
      refine g_iconst (v := 1) C dX8_turn_28 (by decide) ?_
      refine g_callV (rest := []) (st1 := [.int (f_X8_get k 1 ω)]) C (c_X8_get k 1 (by omega) (by omega) ω) (cwV 2 C.hts gX8_turn_X8_get rfl rfl rfl md_X8_get ⟨Nat.le_of_ble_eq_true rfl, Nat.le_of_ble_eq_true rfl⟩) (by decide) (mk_11 (by decide)) rfl rfl rfl rfl rfl (Nat.le_of_ble_eq_true rfl) dX8_turn_29 (Nat.zero_le _) (Nat.zero_le _) ?_
      refine g_istore_n (lv' := [(3, .int (f_X8_get k 1 ω)), (0, .ref (ad 120)), (1, .int (nI (k))), (2, .int v)]) C dX8_turn_32 rfl (by decide) rfl ?_
      refine g_iload_n C dX8_turn_33 rfl 0 rfl ?_
      refine g_iload_n C dX8_turn_34 rfl 3 rfl ?_
      refine g_icmp_ne (tgt := 41) C dX8_turn_35 (by decide) (fun h3 => ?_) (fun h3 => ?_)
      · refine g_aload_n C dX8_turn_41 rfl 1 rfl ?_
        refine g_callV (rest := []) (st1 := []) C (c_X8_records ω hmi) (cwV 0 C.hts gX8_turn_X8_records rfl rfl rfl md_X8_records ⟨Nat.le_of_ble_eq_true rfl, Nat.le_of_ble_eq_true rfl⟩) (by decide) (mk_11 (by decide)) rfl rfl rfl rfl rfl (Nat.le_of_ble_eq_true rfl) dX8_turn_42 (Nat.zero_le _) (Nat.zero_le _) ?_
        refine g_aload_n C dX8_turn_45 rfl 1 rfl ?_
        refine g_iload_n C dX8_turn_46 rfl 2 rfl ?_
        refine g_iconst (v := 1) C dX8_turn_47 (by decide) ?_
        refine g_iload_n C dX8_turn_48 rfl 3 rfl ?_
        refine g_callV (rest := []) (st1 := []) C (c_X8_lay k 1 v (by omega) (by omega) (f_X8_records ω) (mi_X8_records ω hmi)) (cwV 3 C.hts gX8_turn_X8_lay rfl rfl rfl md_X8_lay ⟨Nat.le_of_ble_eq_true rfl, Nat.le_of_ble_eq_true rfl⟩) (by decide) (mk_11 (by decide)) rfl rfl rfl rfl rfl (Nat.le_of_ble_eq_true rfl) dX8_turn_49 (Nat.zero_le _) (Nat.zero_le _) ?_
        refine g_aload_n C dX8_turn_52 rfl 1 rfl ?_
        refine g_iload_n C dX8_turn_53 rfl 2 rfl ?_
        refine g_iconst (v := 4) C dX8_turn_54 (by decide) ?_
        refine g_iload_n C dX8_turn_55 rfl 3 rfl ?_
        refine g_if_ne (tgt := 63) C dX8_turn_56 (by decide) (fun h4 => ?_) (fun h4 => ?_)
        · refine g_aload_n C dX8_turn_63 rfl 1 rfl ?_
          refine g_iload_n C dX8_turn_64 rfl 2 rfl ?_
          refine g_iconst (v := 4) C dX8_turn_65 (by decide) ?_
          refine g_callV (rest := [.int 4, .int (nI (k)), .ref (ad 120)]) (st1 := [.int (f_X8_get k 4 (f_X8_lay k 1 v (f_X8_records ω))), .int 4, .int (nI (k)), .ref (ad 120)]) C (c_X8_get k 4 (by omega) (by omega) (f_X8_lay k 1 v (f_X8_records ω))) (cwV 2 C.hts gX8_turn_X8_get rfl rfl rfl md_X8_get ⟨Nat.le_of_ble_eq_true rfl, Nat.le_of_ble_eq_true rfl⟩) (by decide) (mk_11 (by decide)) rfl rfl rfl rfl rfl (Nat.le_of_ble_eq_true rfl) dX8_turn_66 (Nat.zero_le _) (Nat.zero_le _) ?_
          refine g_callV (rest := []) (st1 := []) C (c_X8_lay k 4 (f_X8_get k 4 (f_X8_lay k 1 v (f_X8_records ω))) (by omega) (by omega) (f_X8_lay k 1 v (f_X8_records ω)) (mi_X8_lay k 1 v (by omega) (by omega) (f_X8_records ω) (mi_X8_records ω hmi))) (cwV 3 C.hts gX8_turn_X8_lay rfl rfl rfl md_X8_lay ⟨Nat.le_of_ble_eq_true rfl, Nat.le_of_ble_eq_true rfl⟩) (by decide) (mk_11 (by decide)) rfl rfl rfl rfl rfl (Nat.le_of_ble_eq_true rfl) dX8_turn_69 (Nat.zero_le _) (Nat.zero_le _) ?_
          refine g_iload_n C dX8_turn_72 rfl 0 rfl ?_
          exact g_iret C hret hlk (e1.trans (pr1 (v := (f_X8_get k 1 ω)) (w := (f_X8_lay k 4 (f_X8_get k 4 (f_X8_lay k 1 v (f_X8_records ω))) (f_X8_lay k 1 v (f_X8_records ω)))) ((if_neg h1).trans ((if_neg h2).trans ((if_neg h3).trans ((if_neg h4).trans rfl)))))) (e2.trans (pr2 (v := (f_X8_get k 1 ω)) (w := (f_X8_lay k 4 (f_X8_get k 4 (f_X8_lay k 1 v (f_X8_records ω))) (f_X8_lay k 1 v (f_X8_records ω)))) ((if_neg h1).trans ((if_neg h2).trans ((if_neg h3).trans ((if_neg h4).trans rfl)))))) dX8_turn_73
        · refine g_iconst (v := 0) C dX8_turn_59 (by decide) ?_
          refine g_goto (tgt := 69) C dX8_turn_60 (by decide) ?_
          refine g_callV (rest := []) (st1 := []) C (c_X8_lay k 4 0 (by omega) (by omega) (f_X8_lay k 1 v (f_X8_records ω)) (mi_X8_lay k 1 v (by omega) (by omega) (f_X8_records ω) (mi_X8_records ω hmi))) (cwV 3 C.hts gX8_turn_X8_lay rfl rfl rfl md_X8_lay ⟨Nat.le_of_ble_eq_true rfl, Nat.le_of_ble_eq_true rfl⟩) (by decide) (mk_11 (by decide)) rfl rfl rfl rfl rfl (Nat.le_of_ble_eq_true rfl) dX8_turn_69 (Nat.zero_le _) (Nat.zero_le _) ?_
          refine g_iload_n C dX8_turn_72 rfl 0 rfl ?_
          exact g_iret C hret hlk (e1.trans (pr1 (v := (f_X8_get k 1 ω)) (w := (f_X8_lay k 4 0 (f_X8_lay k 1 v (f_X8_records ω)))) ((if_neg h1).trans ((if_neg h2).trans ((if_neg h3).trans ((if_pos h4).trans rfl)))))) (e2.trans (pr2 (v := (f_X8_get k 1 ω)) (w := (f_X8_lay k 4 0 (f_X8_lay k 1 v (f_X8_records ω)))) ((if_neg h1).trans ((if_neg h2).trans ((if_neg h3).trans ((if_pos h4).trans rfl)))))) dX8_turn_73
      · refine g_bipush (v := (-5)) C dX8_turn_38 (by decide) ?_
        exact g_iret C hret hlk (e1.trans (pr1 (v := (-5)) (w := ω) ((if_neg h1).trans ((if_neg h2).trans ((if_pos h3).trans rfl))))) (e2.trans (pr2 (v := (-5)) (w := ω) ((if_neg h1).trans ((if_neg h2).trans ((if_pos h3).trans rfl))))) dX8_turn_40
    · refine g_bipush (v := (-2)) C dX8_turn_23 (by decide) ?_
      exact g_iret C hret hlk (e1.trans (pr1 (v := (-2)) (w := ω) ((if_neg h1).trans ((if_pos h2).trans rfl)))) (e2.trans (pr2 (v := (-2)) (w := ω) ((if_neg h1).trans ((if_pos h2).trans rfl)))) dX8_turn_25
  · refine g_iconst (v := (-1)) C dX8_turn_12 (by decide) ?_
    exact g_iret C hret hlk (e1.trans (pr1 (v := (-1)) (w := ω) ((if_pos h1).trans rfl))) (e2.trans (pr2 (v := (-1)) (w := ω) ((if_pos h1).trans rfl))) dX8_turn_13
def f_X8_turn (k : Nat) (v : Int32) (ω : Mem) : Int32 × Mem := (f_X8_turn_5 k v (st ω 120 0 0))
set_option maxRecDepth 100000 in
set_option maxHeartbeats 4000000 in
theorem c_X8_turn {l_ : Launch} {sa : Nat → Nat} {D : va_G} {X : Nat → ClassId} {ad : Nat → Nat} (k : Nat) (v : Int32) (hk : k < 4) (ω : Mem) (hmi : MIn 10 ω) : CT l_ yX8_turn wsX8_turn rm_X8_turn sa D (tyX X) 128 ad (mk X ad ω) [.ref (ad 120), .int (nI (k)), .int v] (some (.int (f_X8_turn k v ω).1) : Option Value) (mk X ad (f_X8_turn k v ω).2) := by
  refine ct_of [(0, .ref (ad 120)), (1, .int (nI (k))), (2, .int v)] (by decide +kernel) rfl rfl (Nat.le_of_ble_eq_true rfl) rfl ?_
  intro p_ e_ s_ m_ args_ below_ meth_ c_ C hret hlk hin
  have e1 : (some (.int (f_X8_turn k v ω).1) : Option Value) = (some (.int (f_X8_turn k v ω).1) : Option Value) := rfl
  have e2 : mk X ad (f_X8_turn k v ω).2 = mk X ad (f_X8_turn k v ω).2 := rfl
  have iX8 : ∀ w ∈ u_ws RX8 TX8 14, w ∈ wsX8_turn := by decide +kernel
  have L31 : Cond.fieldLink RX8 31 (TX8 0).1 (TX8 0).2.1 (TX8 0).2.2.1 ∈ wsX8_turn := by decide +kernel
  refine g_aload_n C dX8_turn_0 rfl 0 rfl ?_
  refine g_iconst (v := 0) C dX8_turn_1 (by decide) ?_
  refine g_put C iX8 tyX8 tyX8_ok nmX8 (by decide) (mk_11 (by decide)) rfl 0 (by decide) L31 rfl rfl rfl (Nat.le_of_ble_eq_true rfl) dX8_turn_2 ?_
  refine gv_eqG (mkp_11_0 (by decide)) ?_
  exact k_X8_turn_5 k v hk C hret hlk  (st ω 120 0 0) (MIn_f hmi (by decide)) _ _ (e1.trans (congrArg (fun z : Int32 × Mem => some (Value.int z.1)) rfl)) (e2.trans (congrArg (fun z : Int32 × Mem => mk X ad z.2) rfl))
def f_X8_turnB (x : Int32) (v : Int32) (ω : Mem) : Int32 × Mem := ((-1), (st ω 120 0 0))
set_option maxRecDepth 100000 in
set_option maxHeartbeats 4000000 in
theorem c_X8_turnB {l_ : Launch} {sa : Nat → Nat} {D : va_G} {X : Nat → ClassId} {ad : Nat → Nat} (x : Int32) (v : Int32) (hbad : x < 0 ∨ 4 ≤ x) (ω : Mem)  : CT l_ yX8_turn wsX8_turn rm_X8_turn sa D (tyX X) 128 ad (mk X ad ω) [.ref (ad 120), .int x, .int v] (some (.int (f_X8_turnB x v ω).1) : Option Value) (mk X ad (f_X8_turnB x v ω).2) := by
  refine ct_of [(0, .ref (ad 120)), (1, .int x), (2, .int v)] (by decide +kernel) rfl rfl (Nat.le_of_ble_eq_true rfl) rfl ?_
  intro p_ e_ s_ m_ args_ below_ meth_ c_ C hret hlk hin
  have e1 : (some (.int (f_X8_turnB x v ω).1) : Option Value) = (some (.int (f_X8_turnB x v ω).1) : Option Value) := rfl
  have e2 : mk X ad (f_X8_turnB x v ω).2 = mk X ad (f_X8_turnB x v ω).2 := rfl
  have iX8 : ∀ w ∈ u_ws RX8 TX8 14, w ∈ wsX8_turn := by decide +kernel
  have L31 : Cond.fieldLink RX8 31 (TX8 0).1 (TX8 0).2.1 (TX8 0).2.2.1 ∈ wsX8_turn := by decide +kernel
  refine g_aload_n C dX8_turn_0 rfl 0 rfl ?_
  refine g_iconst (v := 0) C dX8_turn_1 (by decide) ?_
  refine g_put C iX8 tyX8 tyX8_ok nmX8 (by decide) (mk_11 (by decide)) rfl 0 (by decide) L31 rfl rfl rfl (Nat.le_of_ble_eq_true rfl) dX8_turn_2 ?_
  refine gv_eqG (mkp_11_0 (by decide)) ?_
  refine g_iload_n C dX8_turn_5 rfl 1 rfl ?_
  refine g_callS (rest := []) (st1 := [.int (f_X8_isBurner x (st ω 120 0 0))]) C (c_X8_isBurner x (st ω 120 0 0)) (va_cwS 1 C.hts gX8_turn_X8_isBurner rfl rfl rfl md_X8_isBurner.2 ⟨Nat.le_of_ble_eq_true rfl, Nat.le_of_ble_eq_true rfl⟩) rfl rfl rfl (Nat.le_of_ble_eq_true rfl) dX8_turn_6 (Nat.zero_le _) (Nat.zero_le _) ?_
  refine g_if_ne (tgt := 14) C dX8_turn_9 (by decide) (fun z => absurd (isBurner_bad hbad) z) (fun _ => ?_)
  refine g_iconst (v := (-1)) C dX8_turn_12 (by decide) ?_
  exact g_iret C hret hlk (e1.trans (pr1 (v := (-1)) (w := (st ω 120 0 0)) rfl)) (e2.trans (pr2 (v := (-1)) (w := (st ω 120 0 0)) rfl)) dX8_turn_13
abbrev rm_X8_press : Room := { frames := 2, cells := 0, slots := 0, locals := 43 }
theorem md_X8_press : yX8_press.cls = RX8 ∧ yX8_press.cls ≠ "java/lang/invoke/MethodHandle" ∧ yX8_press.cls ≠ "java/lang/invoke/VarHandle" ∧ (parseMethodDescriptor yX8_press.desc).map (fun d => d.parameters.length) = some 2 := by decide +kernel
def f_X8_press_5 (k : Nat) (v : Int32) (ω : Mem) : Int32 × Mem := (if (f_X8_isBurner (nI (k)) ω) = 0 then ((-1), ω) else (if v = 0 then (if (f_X8_get k 2 ω) = 0 then ((-5), ω) else (if (f_X8_isOpen k (f_X8_lay k 2 0 (f_X8_records ω))) = 0 then (0, (f_X8_lay k 2 0 (f_X8_records ω))) else (1, (f_X8_lay k 2 0 (f_X8_records ω))))) else (if (f_X8_get k 2 ω) = 1 then ((-5), ω) else (if (f_X8_isOpen k (f_X8_lay k 2 1 (f_X8_records ω))) = 0 then (0, (f_X8_lay k 2 1 (f_X8_records ω))) else (1, (f_X8_lay k 2 1 (f_X8_records ω)))))))
set_option maxRecDepth 100000 in
set_option maxHeartbeats 4000000 in
theorem k_X8_press_5 {l_ : Launch} {p_ : Program} {e_ : Env} {s_ : State} {m_ : MethodId} {args_ : Array Value} {below_ : List Frame} {meth_ : Method} {c_ : Code} {sa : Nat → Nat} {D : va_G} {X : Nat → ClassId} {ad : Nat → Nat} {G0 : Nat → va_E} (k : Nat) (v : Int32) (hb_v : bb v = v) (hk : k < 4) (C : GC p_ rm_X8_press s_ m_ args_ meth_ c_ cX8_press 3 wsX8_press RX8 sa D (tyX X) (va_A (gw 128 ad G0) s_.heap.size)) (hret : meth_.sig.returnType = (some .int)) (hlk : meth_.locks = false) : ∀  (ω : Mem) (hmi : MIn 10 ω) (rv : Option Value) (G2 : Nat → va_E) (e1 : rv = some (.int (f_X8_press_5 k v ω).1)) (e2 : G2 = mk X ad (f_X8_press_5 k v ω).2), GV p_ l_ e_ rm_X8_press s_ m_ args_ below_ meth_ c_ 0 0 (CQ below_ args_ s_ D 128 ad G0 rv G2) D (va_A (gw 128 ad G0) s_.heap.size) 3 128 ad (mk X ad ω) [(0, .ref (ad 120)), (1, .int (nI (k))), (2, .int v)] 5 [] := by
  intro ω hmi rv G2 e1 e2
  refine g_iload_n C dX8_press_5 rfl 1 rfl ?_
  refine g_callS (rest := []) (st1 := [.int (f_X8_isBurner (nI (k)) ω)]) C (c_X8_isBurner (nI (k)) ω) (va_cwS 1 C.hts gX8_press_X8_isBurner rfl rfl rfl md_X8_isBurner.2 ⟨Nat.le_of_ble_eq_true rfl, Nat.le_of_ble_eq_true rfl⟩) rfl rfl rfl (Nat.le_of_ble_eq_true rfl) dX8_press_6 (Nat.zero_le _) (Nat.zero_le _) ?_
  refine g_if_ne (tgt := 14) C dX8_press_9 (by decide) (fun h1 => ?_) (fun h1 => ?_)
  · refine g_aload_n C dX8_press_14 rfl 0 rfl ?_
    refine g_iload_n C dX8_press_15 rfl 1 rfl ?_
    refine g_iconst (v := 2) C dX8_press_16 (by decide) ?_
    refine g_callV (rest := []) (st1 := [.int (f_X8_get k 2 ω)]) C (c_X8_get k 2 (by omega) (by omega) ω) (cwV 2 C.hts gX8_press_X8_get rfl rfl rfl md_X8_get ⟨Nat.le_of_ble_eq_true rfl, Nat.le_of_ble_eq_true rfl⟩) (by decide) (mk_11 (by decide)) rfl rfl rfl rfl rfl (Nat.le_of_ble_eq_true rfl) dX8_press_17 (Nat.zero_le _) (Nat.zero_le _) ?_
    refine g_iload_n C dX8_press_20 rfl 2 rfl ?_
    refine g_if_eq (tgt := 28) C dX8_press_21 (by decide) (fun h2 => ?_) (fun h2 => ?_)
    · refine g_iconst (v := 0) C dX8_press_28 (by decide) ?_
      refine g_icmp_ne (tgt := 35) C dX8_press_29 (by decide) (fun h3 => ?_) (fun h3 => ?_)
      · refine g_aload_n C dX8_press_35 rfl 0 rfl ?_
        refine g_callV (rest := []) (st1 := []) C (c_X8_records ω hmi) (cwV 0 C.hts gX8_press_X8_records rfl rfl rfl md_X8_records ⟨Nat.le_of_ble_eq_true rfl, Nat.le_of_ble_eq_true rfl⟩) (by decide) (mk_11 (by decide)) rfl rfl rfl rfl rfl (Nat.le_of_ble_eq_true rfl) dX8_press_36 (Nat.zero_le _) (Nat.zero_le _) ?_
        refine g_aload_n C dX8_press_39 rfl 0 rfl ?_
        refine g_iload_n C dX8_press_40 rfl 1 rfl ?_
        refine g_iconst (v := 2) C dX8_press_41 (by decide) ?_
        refine g_iload_n C dX8_press_42 rfl 2 rfl ?_
        refine g_if_eq (tgt := 50) C dX8_press_43 (by decide) (fun _ => ?_) (fun z => absurd h2 z)
        refine g_iconst (v := 0) C dX8_press_50 (by decide) ?_
        refine g_callV (rest := []) (st1 := []) C (c_X8_lay k 2 0 (by omega) (by omega) (f_X8_records ω) (mi_X8_records ω hmi)) (cwV 3 C.hts gX8_press_X8_lay rfl rfl rfl md_X8_lay ⟨Nat.le_of_ble_eq_true rfl, Nat.le_of_ble_eq_true rfl⟩) (by decide) (mk_11 (by decide)) rfl rfl rfl rfl rfl (Nat.le_of_ble_eq_true rfl) dX8_press_51 (Nat.zero_le _) (Nat.zero_le _) ?_
        refine g_aload_n C dX8_press_54 rfl 0 rfl ?_
        refine g_iload_n C dX8_press_55 rfl 1 rfl ?_
        refine g_callV (rest := []) (st1 := [.int (f_X8_isOpen k (f_X8_lay k 2 0 (f_X8_records ω)))]) C (c_X8_isOpen k (by omega) (f_X8_lay k 2 0 (f_X8_records ω))) (cwV 1 C.hts gX8_press_X8_isOpen rfl rfl rfl md_X8_isOpen ⟨Nat.le_of_ble_eq_true rfl, Nat.le_of_ble_eq_true rfl⟩) (by decide) (mk_11 (by decide)) rfl rfl rfl rfl rfl (Nat.le_of_ble_eq_true rfl) dX8_press_56 (Nat.zero_le _) (Nat.zero_le _) ?_
        refine g_if_eq (tgt := 66) C dX8_press_59 (by decide) (fun h4 => ?_) (fun h4 => ?_)
        · refine g_iconst (v := 0) C dX8_press_66 (by decide) ?_
          exact g_iret C hret hlk (e1.trans (pr1 (v := 0) (w := (f_X8_lay k 2 0 (f_X8_records ω))) ((if_neg h1).trans ((if_pos h2).trans ((if_neg h3).trans ((if_pos h4).trans rfl)))))) (e2.trans (pr2 (v := 0) (w := (f_X8_lay k 2 0 (f_X8_records ω))) ((if_neg h1).trans ((if_pos h2).trans ((if_neg h3).trans ((if_pos h4).trans rfl)))))) dX8_press_67
        · refine g_iconst (v := 1) C dX8_press_62 (by decide) ?_
          refine g_goto (tgt := 67) C dX8_press_63 (by decide) ?_
          exact g_iret C hret hlk (e1.trans (pr1 (v := 1) (w := (f_X8_lay k 2 0 (f_X8_records ω))) ((if_neg h1).trans ((if_pos h2).trans ((if_neg h3).trans ((if_neg h4).trans rfl)))))) (e2.trans (pr2 (v := 1) (w := (f_X8_lay k 2 0 (f_X8_records ω))) ((if_neg h1).trans ((if_pos h2).trans ((if_neg h3).trans ((if_neg h4).trans rfl)))))) dX8_press_67
      · refine g_bipush (v := (-5)) C dX8_press_32 (by decide) ?_
        exact g_iret C hret hlk (e1.trans (pr1 (v := (-5)) (w := ω) ((if_neg h1).trans ((if_pos h2).trans ((if_pos h3).trans rfl))))) (e2.trans (pr2 (v := (-5)) (w := ω) ((if_neg h1).trans ((if_pos h2).trans ((if_pos h3).trans rfl))))) dX8_press_34
    · refine g_iconst (v := 1) C dX8_press_24 (by decide) ?_
      refine g_goto (tgt := 29) C dX8_press_25 (by decide) ?_
      refine g_icmp_ne (tgt := 35) C dX8_press_29 (by decide) (fun h5 => ?_) (fun h5 => ?_)
      · refine g_aload_n C dX8_press_35 rfl 0 rfl ?_
        refine g_callV (rest := []) (st1 := []) C (c_X8_records ω hmi) (cwV 0 C.hts gX8_press_X8_records rfl rfl rfl md_X8_records ⟨Nat.le_of_ble_eq_true rfl, Nat.le_of_ble_eq_true rfl⟩) (by decide) (mk_11 (by decide)) rfl rfl rfl rfl rfl (Nat.le_of_ble_eq_true rfl) dX8_press_36 (Nat.zero_le _) (Nat.zero_le _) ?_
        refine g_aload_n C dX8_press_39 rfl 0 rfl ?_
        refine g_iload_n C dX8_press_40 rfl 1 rfl ?_
        refine g_iconst (v := 2) C dX8_press_41 (by decide) ?_
        refine g_iload_n C dX8_press_42 rfl 2 rfl ?_
        refine g_if_eq (tgt := 50) C dX8_press_43 (by decide) (fun z => absurd z h2) (fun _ => ?_)
        refine g_iconst (v := 1) C dX8_press_46 (by decide) ?_
        refine g_goto (tgt := 51) C dX8_press_47 (by decide) ?_
        refine g_callV (rest := []) (st1 := []) C (c_X8_lay k 2 1 (by omega) (by omega) (f_X8_records ω) (mi_X8_records ω hmi)) (cwV 3 C.hts gX8_press_X8_lay rfl rfl rfl md_X8_lay ⟨Nat.le_of_ble_eq_true rfl, Nat.le_of_ble_eq_true rfl⟩) (by decide) (mk_11 (by decide)) rfl rfl rfl rfl rfl (Nat.le_of_ble_eq_true rfl) dX8_press_51 (Nat.zero_le _) (Nat.zero_le _) ?_
        refine g_aload_n C dX8_press_54 rfl 0 rfl ?_
        refine g_iload_n C dX8_press_55 rfl 1 rfl ?_
        refine g_callV (rest := []) (st1 := [.int (f_X8_isOpen k (f_X8_lay k 2 1 (f_X8_records ω)))]) C (c_X8_isOpen k (by omega) (f_X8_lay k 2 1 (f_X8_records ω))) (cwV 1 C.hts gX8_press_X8_isOpen rfl rfl rfl md_X8_isOpen ⟨Nat.le_of_ble_eq_true rfl, Nat.le_of_ble_eq_true rfl⟩) (by decide) (mk_11 (by decide)) rfl rfl rfl rfl rfl (Nat.le_of_ble_eq_true rfl) dX8_press_56 (Nat.zero_le _) (Nat.zero_le _) ?_
        refine g_if_eq (tgt := 66) C dX8_press_59 (by decide) (fun h6 => ?_) (fun h6 => ?_)
        · refine g_iconst (v := 0) C dX8_press_66 (by decide) ?_
          exact g_iret C hret hlk (e1.trans (pr1 (v := 0) (w := (f_X8_lay k 2 1 (f_X8_records ω))) ((if_neg h1).trans ((if_neg h2).trans ((if_neg h5).trans ((if_pos h6).trans rfl)))))) (e2.trans (pr2 (v := 0) (w := (f_X8_lay k 2 1 (f_X8_records ω))) ((if_neg h1).trans ((if_neg h2).trans ((if_neg h5).trans ((if_pos h6).trans rfl)))))) dX8_press_67
        · refine g_iconst (v := 1) C dX8_press_62 (by decide) ?_
          refine g_goto (tgt := 67) C dX8_press_63 (by decide) ?_
          exact g_iret C hret hlk (e1.trans (pr1 (v := 1) (w := (f_X8_lay k 2 1 (f_X8_records ω))) ((if_neg h1).trans ((if_neg h2).trans ((if_neg h5).trans ((if_neg h6).trans rfl)))))) (e2.trans (pr2 (v := 1) (w := (f_X8_lay k 2 1 (f_X8_records ω))) ((if_neg h1).trans ((if_neg h2).trans ((if_neg h5).trans ((if_neg h6).trans rfl)))))) dX8_press_67
      · refine g_bipush (v := (-5)) C dX8_press_32 (by decide) ?_
        exact g_iret C hret hlk (e1.trans (pr1 (v := (-5)) (w := ω) ((if_neg h1).trans ((if_neg h2).trans ((if_pos h5).trans rfl))))) (e2.trans (pr2 (v := (-5)) (w := ω) ((if_neg h1).trans ((if_neg h2).trans ((if_pos h5).trans rfl))))) dX8_press_34
  · refine g_iconst (v := (-1)) C dX8_press_12 (by decide) ?_
    exact g_iret C hret hlk (e1.trans (pr1 (v := (-1)) (w := ω) ((if_pos h1).trans rfl))) (e2.trans (pr2 (v := (-1)) (w := ω) ((if_pos h1).trans rfl))) dX8_press_13
def f_X8_press (k : Nat) (v : Int32) (ω : Mem) : Int32 × Mem := (f_X8_press_5 k v (st ω 120 0 0))
set_option maxRecDepth 100000 in
set_option maxHeartbeats 4000000 in
theorem c_X8_press {l_ : Launch} {sa : Nat → Nat} {D : va_G} {X : Nat → ClassId} {ad : Nat → Nat} (k : Nat) (v : Int32) (hb_v : bb v = v) (hk : k < 4) (ω : Mem) (hmi : MIn 10 ω) : CT l_ yX8_press wsX8_press rm_X8_press sa D (tyX X) 128 ad (mk X ad ω) [.ref (ad 120), .int (nI (k)), .int v] (some (.int (f_X8_press k v ω).1) : Option Value) (mk X ad (f_X8_press k v ω).2) := by
  refine ct_of [(0, .ref (ad 120)), (1, .int (nI (k))), (2, .int v)] (by decide +kernel) rfl rfl (Nat.le_of_ble_eq_true rfl) rfl ?_
  intro p_ e_ s_ m_ args_ below_ meth_ c_ C hret hlk hin
  have e1 : (some (.int (f_X8_press k v ω).1) : Option Value) = (some (.int (f_X8_press k v ω).1) : Option Value) := rfl
  have e2 : mk X ad (f_X8_press k v ω).2 = mk X ad (f_X8_press k v ω).2 := rfl
  have iX8 : ∀ w ∈ u_ws RX8 TX8 14, w ∈ wsX8_press := by decide +kernel
  have L31 : Cond.fieldLink RX8 31 (TX8 0).1 (TX8 0).2.1 (TX8 0).2.2.1 ∈ wsX8_press := by decide +kernel
  refine g_aload_n C dX8_press_0 rfl 0 rfl ?_
  refine g_iconst (v := 0) C dX8_press_1 (by decide) ?_
  refine g_put C iX8 tyX8 tyX8_ok nmX8 (by decide) (mk_11 (by decide)) rfl 0 (by decide) L31 rfl rfl rfl (Nat.le_of_ble_eq_true rfl) dX8_press_2 ?_
  refine gv_eqG (mkp_11_0 (by decide)) ?_
  exact k_X8_press_5 k v hb_v hk C hret hlk  (st ω 120 0 0) (MIn_f hmi (by decide)) _ _ (e1.trans (congrArg (fun z : Int32 × Mem => some (Value.int z.1)) rfl)) (e2.trans (congrArg (fun z : Int32 × Mem => mk X ad z.2) rfl))
def f_X8_pressB (x : Int32) (v : Int32) (ω : Mem) : Int32 × Mem := ((-1), (st ω 120 0 0))
set_option maxRecDepth 100000 in
set_option maxHeartbeats 4000000 in
theorem c_X8_pressB {l_ : Launch} {sa : Nat → Nat} {D : va_G} {X : Nat → ClassId} {ad : Nat → Nat} (x : Int32) (v : Int32) (hb_v : bb v = v) (hbad : x < 0 ∨ 4 ≤ x) (ω : Mem)  : CT l_ yX8_press wsX8_press rm_X8_press sa D (tyX X) 128 ad (mk X ad ω) [.ref (ad 120), .int x, .int v] (some (.int (f_X8_pressB x v ω).1) : Option Value) (mk X ad (f_X8_pressB x v ω).2) := by
  refine ct_of [(0, .ref (ad 120)), (1, .int x), (2, .int v)] (by decide +kernel) rfl rfl (Nat.le_of_ble_eq_true rfl) rfl ?_
  intro p_ e_ s_ m_ args_ below_ meth_ c_ C hret hlk hin
  have e1 : (some (.int (f_X8_pressB x v ω).1) : Option Value) = (some (.int (f_X8_pressB x v ω).1) : Option Value) := rfl
  have e2 : mk X ad (f_X8_pressB x v ω).2 = mk X ad (f_X8_pressB x v ω).2 := rfl
  have iX8 : ∀ w ∈ u_ws RX8 TX8 14, w ∈ wsX8_press := by decide +kernel
  have L31 : Cond.fieldLink RX8 31 (TX8 0).1 (TX8 0).2.1 (TX8 0).2.2.1 ∈ wsX8_press := by decide +kernel
  refine g_aload_n C dX8_press_0 rfl 0 rfl ?_
  refine g_iconst (v := 0) C dX8_press_1 (by decide) ?_
  refine g_put C iX8 tyX8 tyX8_ok nmX8 (by decide) (mk_11 (by decide)) rfl 0 (by decide) L31 rfl rfl rfl (Nat.le_of_ble_eq_true rfl) dX8_press_2 ?_
  refine gv_eqG (mkp_11_0 (by decide)) ?_
  refine g_iload_n C dX8_press_5 rfl 1 rfl ?_
  refine g_callS (rest := []) (st1 := [.int (f_X8_isBurner x (st ω 120 0 0))]) C (c_X8_isBurner x (st ω 120 0 0)) (va_cwS 1 C.hts gX8_press_X8_isBurner rfl rfl rfl md_X8_isBurner.2 ⟨Nat.le_of_ble_eq_true rfl, Nat.le_of_ble_eq_true rfl⟩) rfl rfl rfl (Nat.le_of_ble_eq_true rfl) dX8_press_6 (Nat.zero_le _) (Nat.zero_le _) ?_
  refine g_if_ne (tgt := 14) C dX8_press_9 (by decide) (fun z => absurd (isBurner_bad hbad) z) (fun _ => ?_)
  refine g_iconst (v := (-1)) C dX8_press_12 (by decide) ?_
  exact g_iret C hret hlk (e1.trans (pr1 (v := (-1)) (w := (st ω 120 0 0)) rfl)) (e2.trans (pr2 (v := (-1)) (w := (st ω 120 0 0)) rfl)) dX8_press_13
abbrev rm_X8_sumOver : Room := { frames := 1, cells := 0, slots := 0, locals := 22 }
theorem md_X8_sumOver : yX8_sumOver.cls = RX8 ∧ yX8_sumOver.cls ≠ "java/lang/invoke/MethodHandle" ∧ yX8_sumOver.cls ≠ "java/lang/invoke/VarHandle" ∧ (parseMethodDescriptor yX8_sumOver.desc).map (fun d => d.parameters.length) = some 1 := by decide +kernel
def f_X8_sumOver (w : Nat) (ω : Mem) : Int32 := ((((0 + (f_X8_get 0 w ω)) + (f_X8_get 1 w ω)) + (f_X8_get 2 w ω)) + (f_X8_get 3 w ω))
set_option maxRecDepth 100000 in
set_option maxHeartbeats 4000000 in
theorem c_X8_sumOver {l_ : Launch} {sa : Nat → Nat} {D : va_G} {X : Nat → ClassId} {ad : Nat → Nat} (w : Nat) (hw : w < 10) (ω : Mem)  : CT l_ yX8_sumOver wsX8_sumOver rm_X8_sumOver sa D (tyX X) 128 ad (mk X ad ω) [.ref (ad 120), .int (nI (w))] (some (.int (f_X8_sumOver w ω)) : Option Value) (mk X ad ω) := by
  refine ct_of [(0, .ref (ad 120)), (1, .int (nI (w)))] (by decide +kernel) rfl rfl (Nat.le_of_ble_eq_true rfl) rfl ?_
  intro p_ e_ s_ m_ args_ below_ meth_ c_ C hret hlk hin
  have e1 : (some (.int (f_X8_sumOver w ω)) : Option Value) = (some (.int (f_X8_sumOver w ω)) : Option Value) := rfl
  have e2 : mk X ad ω = mk X ad ω := rfl
  refine g_iconst (v := 0) C dX8_sumOver_0 (by decide) ?_
  refine g_istore_n (lv' := [(2, .int 0), (0, .ref (ad 120)), (1, .int (nI (w)))]) C dX8_sumOver_1 rfl (by decide) rfl ?_
  refine g_iconst (v := 0) C dX8_sumOver_2 (by decide) ?_
  refine g_istore_n (lv' := [(3, .int 0), (2, .int 0), (0, .ref (ad 120)), (1, .int (nI (w)))]) C dX8_sumOver_3 rfl (by decide) rfl ?_
  refine g_iload_n C dX8_sumOver_4 rfl 0 rfl ?_
  refine g_iconst (v := 4) C dX8_sumOver_5 (by decide) ?_
  refine g_icmp_ge (tgt := 24) C dX8_sumOver_6 (by decide) (fun z => absurd z (by decide)) (fun _ => ?_)
  refine g_iload_n C dX8_sumOver_9 rfl 1 rfl ?_
  refine g_aload_n C dX8_sumOver_10 rfl 2 rfl ?_
  refine g_iload_n C dX8_sumOver_11 rfl 0 rfl ?_
  refine g_iload_n C dX8_sumOver_12 rfl 3 rfl ?_
  refine g_callV (rest := [.int 0]) (st1 := [.int (f_X8_get 0 w ω), .int 0]) C (c_X8_get 0 w (by omega) (by omega) ω) (cwV 2 C.hts gX8_sumOver_X8_get rfl rfl rfl md_X8_get ⟨Nat.le_of_ble_eq_true rfl, Nat.le_of_ble_eq_true rfl⟩) (by decide) (mk_11 (by decide)) rfl rfl rfl rfl rfl (Nat.le_of_ble_eq_true rfl) dX8_sumOver_13 (Nat.zero_le _) (Nat.zero_le _) ?_
  refine g_iadd (v := (0 + (f_X8_get 0 w ω))) C dX8_sumOver_16 rfl ?_
  refine g_istore_n (lv' := [(2, .int (0 + (f_X8_get 0 w ω))), (3, .int 0), (0, .ref (ad 120)), (1, .int (nI (w)))]) C dX8_sumOver_17 rfl (by decide) rfl ?_
  refine g_iinc (k := 1) (v := 1) (lv' := [(3, .int 1), (2, .int (0 + (f_X8_get 0 w ω))), (0, .ref (ad 120)), (1, .int (nI (w)))]) C dX8_sumOver_18 rfl (by decide) (by decide) rfl ?_
  refine g_goto (tgt := 4) C dX8_sumOver_21 (by decide) ?_
  refine g_iload_n C dX8_sumOver_4 rfl 0 rfl ?_
  refine g_iconst (v := 4) C dX8_sumOver_5 (by decide) ?_
  refine g_icmp_ge (tgt := 24) C dX8_sumOver_6 (by decide) (fun z => absurd z (by decide)) (fun _ => ?_)
  refine g_iload_n C dX8_sumOver_9 rfl 1 rfl ?_
  refine g_aload_n C dX8_sumOver_10 rfl 2 rfl ?_
  refine g_iload_n C dX8_sumOver_11 rfl 0 rfl ?_
  refine g_iload_n C dX8_sumOver_12 rfl 3 rfl ?_
  refine g_callV (rest := [.int (0 + (f_X8_get 0 w ω))]) (st1 := [.int (f_X8_get 1 w ω), .int (0 + (f_X8_get 0 w ω))]) C (c_X8_get 1 w (by omega) (by omega) ω) (cwV 2 C.hts gX8_sumOver_X8_get rfl rfl rfl md_X8_get ⟨Nat.le_of_ble_eq_true rfl, Nat.le_of_ble_eq_true rfl⟩) (by decide) (mk_11 (by decide)) rfl rfl rfl rfl rfl (Nat.le_of_ble_eq_true rfl) dX8_sumOver_13 (Nat.zero_le _) (Nat.zero_le _) ?_
  refine g_iadd (v := ((0 + (f_X8_get 0 w ω)) + (f_X8_get 1 w ω))) C dX8_sumOver_16 rfl ?_
  refine g_istore_n (lv' := [(2, .int ((0 + (f_X8_get 0 w ω)) + (f_X8_get 1 w ω))), (3, .int 1), (0, .ref (ad 120)), (1, .int (nI (w)))]) C dX8_sumOver_17 rfl (by decide) rfl ?_
  refine g_iinc (k := 1) (v := 2) (lv' := [(3, .int 2), (2, .int ((0 + (f_X8_get 0 w ω)) + (f_X8_get 1 w ω))), (0, .ref (ad 120)), (1, .int (nI (w)))]) C dX8_sumOver_18 rfl (by decide) (by decide) rfl ?_
  refine g_goto (tgt := 4) C dX8_sumOver_21 (by decide) ?_
  refine g_iload_n C dX8_sumOver_4 rfl 0 rfl ?_
  refine g_iconst (v := 4) C dX8_sumOver_5 (by decide) ?_
  refine g_icmp_ge (tgt := 24) C dX8_sumOver_6 (by decide) (fun z => absurd z (by decide)) (fun _ => ?_)
  refine g_iload_n C dX8_sumOver_9 rfl 1 rfl ?_
  refine g_aload_n C dX8_sumOver_10 rfl 2 rfl ?_
  refine g_iload_n C dX8_sumOver_11 rfl 0 rfl ?_
  refine g_iload_n C dX8_sumOver_12 rfl 3 rfl ?_
  refine g_callV (rest := [.int ((0 + (f_X8_get 0 w ω)) + (f_X8_get 1 w ω))]) (st1 := [.int (f_X8_get 2 w ω), .int ((0 + (f_X8_get 0 w ω)) + (f_X8_get 1 w ω))]) C (c_X8_get 2 w (by omega) (by omega) ω) (cwV 2 C.hts gX8_sumOver_X8_get rfl rfl rfl md_X8_get ⟨Nat.le_of_ble_eq_true rfl, Nat.le_of_ble_eq_true rfl⟩) (by decide) (mk_11 (by decide)) rfl rfl rfl rfl rfl (Nat.le_of_ble_eq_true rfl) dX8_sumOver_13 (Nat.zero_le _) (Nat.zero_le _) ?_
  refine g_iadd (v := (((0 + (f_X8_get 0 w ω)) + (f_X8_get 1 w ω)) + (f_X8_get 2 w ω))) C dX8_sumOver_16 rfl ?_
  refine g_istore_n (lv' := [(2, .int (((0 + (f_X8_get 0 w ω)) + (f_X8_get 1 w ω)) + (f_X8_get 2 w ω))), (3, .int 2), (0, .ref (ad 120)), (1, .int (nI (w)))]) C dX8_sumOver_17 rfl (by decide) rfl ?_
  refine g_iinc (k := 1) (v := 3) (lv' := [(3, .int 3), (2, .int (((0 + (f_X8_get 0 w ω)) + (f_X8_get 1 w ω)) + (f_X8_get 2 w ω))), (0, .ref (ad 120)), (1, .int (nI (w)))]) C dX8_sumOver_18 rfl (by decide) (by decide) rfl ?_
  refine g_goto (tgt := 4) C dX8_sumOver_21 (by decide) ?_
  refine g_iload_n C dX8_sumOver_4 rfl 0 rfl ?_
  refine g_iconst (v := 4) C dX8_sumOver_5 (by decide) ?_
  refine g_icmp_ge (tgt := 24) C dX8_sumOver_6 (by decide) (fun z => absurd z (by decide)) (fun _ => ?_)
  refine g_iload_n C dX8_sumOver_9 rfl 1 rfl ?_
  refine g_aload_n C dX8_sumOver_10 rfl 2 rfl ?_
  refine g_iload_n C dX8_sumOver_11 rfl 0 rfl ?_
  refine g_iload_n C dX8_sumOver_12 rfl 3 rfl ?_
  refine g_callV (rest := [.int (((0 + (f_X8_get 0 w ω)) + (f_X8_get 1 w ω)) + (f_X8_get 2 w ω))]) (st1 := [.int (f_X8_get 3 w ω), .int (((0 + (f_X8_get 0 w ω)) + (f_X8_get 1 w ω)) + (f_X8_get 2 w ω))]) C (c_X8_get 3 w (by omega) (by omega) ω) (cwV 2 C.hts gX8_sumOver_X8_get rfl rfl rfl md_X8_get ⟨Nat.le_of_ble_eq_true rfl, Nat.le_of_ble_eq_true rfl⟩) (by decide) (mk_11 (by decide)) rfl rfl rfl rfl rfl (Nat.le_of_ble_eq_true rfl) dX8_sumOver_13 (Nat.zero_le _) (Nat.zero_le _) ?_
  refine g_iadd (v := ((((0 + (f_X8_get 0 w ω)) + (f_X8_get 1 w ω)) + (f_X8_get 2 w ω)) + (f_X8_get 3 w ω))) C dX8_sumOver_16 rfl ?_
  refine g_istore_n (lv' := [(2, .int ((((0 + (f_X8_get 0 w ω)) + (f_X8_get 1 w ω)) + (f_X8_get 2 w ω)) + (f_X8_get 3 w ω))), (3, .int 3), (0, .ref (ad 120)), (1, .int (nI (w)))]) C dX8_sumOver_17 rfl (by decide) rfl ?_
  refine g_iinc (k := 1) (v := 4) (lv' := [(3, .int 4), (2, .int ((((0 + (f_X8_get 0 w ω)) + (f_X8_get 1 w ω)) + (f_X8_get 2 w ω)) + (f_X8_get 3 w ω))), (0, .ref (ad 120)), (1, .int (nI (w)))]) C dX8_sumOver_18 rfl (by decide) (by decide) rfl ?_
  refine g_goto (tgt := 4) C dX8_sumOver_21 (by decide) ?_
  refine g_iload_n C dX8_sumOver_4 rfl 0 rfl ?_
  refine g_iconst (v := 4) C dX8_sumOver_5 (by decide) ?_
  refine g_icmp_ge (tgt := 24) C dX8_sumOver_6 (by decide) (fun _ => ?_) (fun z => absurd z (by decide))
  refine g_iload_n C dX8_sumOver_24 rfl 1 rfl ?_
  exact g_iret C hret hlk (e1.trans (congrArg (fun z => some (Value.int z)) rfl)) e2 dX8_sumOver_25
abbrev rm_X8_igniter : Room := { frames := 2, cells := 0, slots := 0, locals := 45 }
theorem md_X8_igniter : yX8_igniter.cls = RX8 ∧ yX8_igniter.cls ≠ "java/lang/invoke/MethodHandle" ∧ yX8_igniter.cls ≠ "java/lang/invoke/VarHandle" ∧ (parseMethodDescriptor yX8_igniter.desc).map (fun d => d.parameters.length) = some 2 := by decide +kernel
def f_X8_igniter_5 (k : Nat) (v : Int32) (ω : Mem) : Int32 × Mem := (if (f_X8_isBurner (nI (k)) ω) = 0 then ((-1), ω) else (if v = 0 then (if (f_X8_get k 3 ω) = 0 then ((-5), ω) else ((f_X8_sumOver 3 (f_X8_lay k 3 0 (f_X8_records ω))), (f_X8_lay k 3 0 (f_X8_records ω)))) else (if (f_X8_get k 3 ω) = 1 then ((-5), ω) else ((f_X8_sumOver 3 (f_X8_lay k 3 1 (f_X8_records ω))), (f_X8_lay k 3 1 (f_X8_records ω))))))
set_option maxRecDepth 100000 in
set_option maxHeartbeats 4000000 in
theorem k_X8_igniter_5 {l_ : Launch} {p_ : Program} {e_ : Env} {s_ : State} {m_ : MethodId} {args_ : Array Value} {below_ : List Frame} {meth_ : Method} {c_ : Code} {sa : Nat → Nat} {D : va_G} {X : Nat → ClassId} {ad : Nat → Nat} {G0 : Nat → va_E} (k : Nat) (v : Int32) (hb_v : bb v = v) (hk : k < 4) (C : GC p_ rm_X8_igniter s_ m_ args_ meth_ c_ cX8_igniter 3 wsX8_igniter RX8 sa D (tyX X) (va_A (gw 128 ad G0) s_.heap.size)) (hret : meth_.sig.returnType = (some .int)) (hlk : meth_.locks = false) : ∀  (ω : Mem) (hmi : MIn 10 ω) (rv : Option Value) (G2 : Nat → va_E) (e1 : rv = some (.int (f_X8_igniter_5 k v ω).1)) (e2 : G2 = mk X ad (f_X8_igniter_5 k v ω).2), GV p_ l_ e_ rm_X8_igniter s_ m_ args_ below_ meth_ c_ 0 0 (CQ below_ args_ s_ D 128 ad G0 rv G2) D (va_A (gw 128 ad G0) s_.heap.size) 3 128 ad (mk X ad ω) [(0, .ref (ad 120)), (1, .int (nI (k))), (2, .int v)] 5 [] := by
  intro ω hmi rv G2 e1 e2
  refine g_iload_n C dX8_igniter_5 rfl 1 rfl ?_
  refine g_callS (rest := []) (st1 := [.int (f_X8_isBurner (nI (k)) ω)]) C (c_X8_isBurner (nI (k)) ω) (va_cwS 1 C.hts gX8_igniter_X8_isBurner rfl rfl rfl md_X8_isBurner.2 ⟨Nat.le_of_ble_eq_true rfl, Nat.le_of_ble_eq_true rfl⟩) rfl rfl rfl (Nat.le_of_ble_eq_true rfl) dX8_igniter_6 (Nat.zero_le _) (Nat.zero_le _) ?_
  refine g_if_ne (tgt := 14) C dX8_igniter_9 (by decide) (fun h1 => ?_) (fun h1 => ?_)
  · refine g_aload_n C dX8_igniter_14 rfl 0 rfl ?_
    refine g_iload_n C dX8_igniter_15 rfl 1 rfl ?_
    refine g_iconst (v := 3) C dX8_igniter_16 (by decide) ?_
    refine g_callV (rest := []) (st1 := [.int (f_X8_get k 3 ω)]) C (c_X8_get k 3 (by omega) (by omega) ω) (cwV 2 C.hts gX8_igniter_X8_get rfl rfl rfl md_X8_get ⟨Nat.le_of_ble_eq_true rfl, Nat.le_of_ble_eq_true rfl⟩) (by decide) (mk_11 (by decide)) rfl rfl rfl rfl rfl (Nat.le_of_ble_eq_true rfl) dX8_igniter_17 (Nat.zero_le _) (Nat.zero_le _) ?_
    refine g_iload_n C dX8_igniter_20 rfl 2 rfl ?_
    refine g_if_eq (tgt := 28) C dX8_igniter_21 (by decide) (fun h2 => ?_) (fun h2 => ?_)
    · refine g_iconst (v := 0) C dX8_igniter_28 (by decide) ?_
      refine g_icmp_ne (tgt := 35) C dX8_igniter_29 (by decide) (fun h3 => ?_) (fun h3 => ?_)
      · refine g_aload_n C dX8_igniter_35 rfl 0 rfl ?_
        refine g_callV (rest := []) (st1 := []) C (c_X8_records ω hmi) (cwV 0 C.hts gX8_igniter_X8_records rfl rfl rfl md_X8_records ⟨Nat.le_of_ble_eq_true rfl, Nat.le_of_ble_eq_true rfl⟩) (by decide) (mk_11 (by decide)) rfl rfl rfl rfl rfl (Nat.le_of_ble_eq_true rfl) dX8_igniter_36 (Nat.zero_le _) (Nat.zero_le _) ?_
        refine g_aload_n C dX8_igniter_39 rfl 0 rfl ?_
        refine g_iload_n C dX8_igniter_40 rfl 1 rfl ?_
        refine g_iconst (v := 3) C dX8_igniter_41 (by decide) ?_
        refine g_iload_n C dX8_igniter_42 rfl 2 rfl ?_
        refine g_if_eq (tgt := 50) C dX8_igniter_43 (by decide) (fun _ => ?_) (fun z => absurd h2 z)
        refine g_iconst (v := 0) C dX8_igniter_50 (by decide) ?_
        refine g_callV (rest := []) (st1 := []) C (c_X8_lay k 3 0 (by omega) (by omega) (f_X8_records ω) (mi_X8_records ω hmi)) (cwV 3 C.hts gX8_igniter_X8_lay rfl rfl rfl md_X8_lay ⟨Nat.le_of_ble_eq_true rfl, Nat.le_of_ble_eq_true rfl⟩) (by decide) (mk_11 (by decide)) rfl rfl rfl rfl rfl (Nat.le_of_ble_eq_true rfl) dX8_igniter_51 (Nat.zero_le _) (Nat.zero_le _) ?_
        refine g_aload_n C dX8_igniter_54 rfl 0 rfl ?_
        refine g_iconst (v := 3) C dX8_igniter_55 (by decide) ?_
        refine g_callV (rest := []) (st1 := [.int (f_X8_sumOver 3 (f_X8_lay k 3 0 (f_X8_records ω)))]) C (c_X8_sumOver 3 (by omega) (f_X8_lay k 3 0 (f_X8_records ω))) (cwV 1 C.hts gX8_igniter_X8_sumOver rfl rfl rfl md_X8_sumOver ⟨Nat.le_of_ble_eq_true rfl, Nat.le_of_ble_eq_true rfl⟩) (by decide) (mk_11 (by decide)) rfl rfl rfl rfl rfl (Nat.le_of_ble_eq_true rfl) dX8_igniter_56 (Nat.zero_le _) (Nat.zero_le _) ?_
        exact g_iret C hret hlk (e1.trans (pr1 (v := (f_X8_sumOver 3 (f_X8_lay k 3 0 (f_X8_records ω)))) (w := (f_X8_lay k 3 0 (f_X8_records ω))) ((if_neg h1).trans ((if_pos h2).trans ((if_neg h3).trans rfl))))) (e2.trans (pr2 (v := (f_X8_sumOver 3 (f_X8_lay k 3 0 (f_X8_records ω)))) (w := (f_X8_lay k 3 0 (f_X8_records ω))) ((if_neg h1).trans ((if_pos h2).trans ((if_neg h3).trans rfl))))) dX8_igniter_59
      · refine g_bipush (v := (-5)) C dX8_igniter_32 (by decide) ?_
        exact g_iret C hret hlk (e1.trans (pr1 (v := (-5)) (w := ω) ((if_neg h1).trans ((if_pos h2).trans ((if_pos h3).trans rfl))))) (e2.trans (pr2 (v := (-5)) (w := ω) ((if_neg h1).trans ((if_pos h2).trans ((if_pos h3).trans rfl))))) dX8_igniter_34
    · refine g_iconst (v := 1) C dX8_igniter_24 (by decide) ?_
      refine g_goto (tgt := 29) C dX8_igniter_25 (by decide) ?_
      refine g_icmp_ne (tgt := 35) C dX8_igniter_29 (by decide) (fun h4 => ?_) (fun h4 => ?_)
      · refine g_aload_n C dX8_igniter_35 rfl 0 rfl ?_
        refine g_callV (rest := []) (st1 := []) C (c_X8_records ω hmi) (cwV 0 C.hts gX8_igniter_X8_records rfl rfl rfl md_X8_records ⟨Nat.le_of_ble_eq_true rfl, Nat.le_of_ble_eq_true rfl⟩) (by decide) (mk_11 (by decide)) rfl rfl rfl rfl rfl (Nat.le_of_ble_eq_true rfl) dX8_igniter_36 (Nat.zero_le _) (Nat.zero_le _) ?_
        refine g_aload_n C dX8_igniter_39 rfl 0 rfl ?_
        refine g_iload_n C dX8_igniter_40 rfl 1 rfl ?_
        refine g_iconst (v := 3) C dX8_igniter_41 (by decide) ?_
        refine g_iload_n C dX8_igniter_42 rfl 2 rfl ?_
        refine g_if_eq (tgt := 50) C dX8_igniter_43 (by decide) (fun z => absurd z h2) (fun _ => ?_)
        refine g_iconst (v := 1) C dX8_igniter_46 (by decide) ?_
        refine g_goto (tgt := 51) C dX8_igniter_47 (by decide) ?_
        refine g_callV (rest := []) (st1 := []) C (c_X8_lay k 3 1 (by omega) (by omega) (f_X8_records ω) (mi_X8_records ω hmi)) (cwV 3 C.hts gX8_igniter_X8_lay rfl rfl rfl md_X8_lay ⟨Nat.le_of_ble_eq_true rfl, Nat.le_of_ble_eq_true rfl⟩) (by decide) (mk_11 (by decide)) rfl rfl rfl rfl rfl (Nat.le_of_ble_eq_true rfl) dX8_igniter_51 (Nat.zero_le _) (Nat.zero_le _) ?_
        refine g_aload_n C dX8_igniter_54 rfl 0 rfl ?_
        refine g_iconst (v := 3) C dX8_igniter_55 (by decide) ?_
        refine g_callV (rest := []) (st1 := [.int (f_X8_sumOver 3 (f_X8_lay k 3 1 (f_X8_records ω)))]) C (c_X8_sumOver 3 (by omega) (f_X8_lay k 3 1 (f_X8_records ω))) (cwV 1 C.hts gX8_igniter_X8_sumOver rfl rfl rfl md_X8_sumOver ⟨Nat.le_of_ble_eq_true rfl, Nat.le_of_ble_eq_true rfl⟩) (by decide) (mk_11 (by decide)) rfl rfl rfl rfl rfl (Nat.le_of_ble_eq_true rfl) dX8_igniter_56 (Nat.zero_le _) (Nat.zero_le _) ?_
        exact g_iret C hret hlk (e1.trans (pr1 (v := (f_X8_sumOver 3 (f_X8_lay k 3 1 (f_X8_records ω)))) (w := (f_X8_lay k 3 1 (f_X8_records ω))) ((if_neg h1).trans ((if_neg h2).trans ((if_neg h4).trans rfl))))) (e2.trans (pr2 (v := (f_X8_sumOver 3 (f_X8_lay k 3 1 (f_X8_records ω)))) (w := (f_X8_lay k 3 1 (f_X8_records ω))) ((if_neg h1).trans ((if_neg h2).trans ((if_neg h4).trans rfl))))) dX8_igniter_59
      · refine g_bipush (v := (-5)) C dX8_igniter_32 (by decide) ?_
        exact g_iret C hret hlk (e1.trans (pr1 (v := (-5)) (w := ω) ((if_neg h1).trans ((if_neg h2).trans ((if_pos h4).trans rfl))))) (e2.trans (pr2 (v := (-5)) (w := ω) ((if_neg h1).trans ((if_neg h2).trans ((if_pos h4).trans rfl))))) dX8_igniter_34
  · refine g_iconst (v := (-1)) C dX8_igniter_12 (by decide) ?_
    exact g_iret C hret hlk (e1.trans (pr1 (v := (-1)) (w := ω) ((if_pos h1).trans rfl))) (e2.trans (pr2 (v := (-1)) (w := ω) ((if_pos h1).trans rfl))) dX8_igniter_13
def f_X8_igniter (k : Nat) (v : Int32) (ω : Mem) : Int32 × Mem := (f_X8_igniter_5 k v (st ω 120 0 0))
set_option maxRecDepth 100000 in
set_option maxHeartbeats 4000000 in
theorem c_X8_igniter {l_ : Launch} {sa : Nat → Nat} {D : va_G} {X : Nat → ClassId} {ad : Nat → Nat} (k : Nat) (v : Int32) (hb_v : bb v = v) (hk : k < 4) (ω : Mem) (hmi : MIn 10 ω) : CT l_ yX8_igniter wsX8_igniter rm_X8_igniter sa D (tyX X) 128 ad (mk X ad ω) [.ref (ad 120), .int (nI (k)), .int v] (some (.int (f_X8_igniter k v ω).1) : Option Value) (mk X ad (f_X8_igniter k v ω).2) := by
  refine ct_of [(0, .ref (ad 120)), (1, .int (nI (k))), (2, .int v)] (by decide +kernel) rfl rfl (Nat.le_of_ble_eq_true rfl) rfl ?_
  intro p_ e_ s_ m_ args_ below_ meth_ c_ C hret hlk hin
  have e1 : (some (.int (f_X8_igniter k v ω).1) : Option Value) = (some (.int (f_X8_igniter k v ω).1) : Option Value) := rfl
  have e2 : mk X ad (f_X8_igniter k v ω).2 = mk X ad (f_X8_igniter k v ω).2 := rfl
  have iX8 : ∀ w ∈ u_ws RX8 TX8 14, w ∈ wsX8_igniter := by decide +kernel
  have L31 : Cond.fieldLink RX8 31 (TX8 0).1 (TX8 0).2.1 (TX8 0).2.2.1 ∈ wsX8_igniter := by decide +kernel
  refine g_aload_n C dX8_igniter_0 rfl 0 rfl ?_
  refine g_iconst (v := 0) C dX8_igniter_1 (by decide) ?_
  refine g_put C iX8 tyX8 tyX8_ok nmX8 (by decide) (mk_11 (by decide)) rfl 0 (by decide) L31 rfl rfl rfl (Nat.le_of_ble_eq_true rfl) dX8_igniter_2 ?_
  refine gv_eqG (mkp_11_0 (by decide)) ?_
  exact k_X8_igniter_5 k v hb_v hk C hret hlk  (st ω 120 0 0) (MIn_f hmi (by decide)) _ _ (e1.trans (congrArg (fun z : Int32 × Mem => some (Value.int z.1)) rfl)) (e2.trans (congrArg (fun z : Int32 × Mem => mk X ad z.2) rfl))
def f_X8_igniterB (x : Int32) (v : Int32) (ω : Mem) : Int32 × Mem := ((-1), (st ω 120 0 0))
set_option maxRecDepth 100000 in
set_option maxHeartbeats 4000000 in
theorem c_X8_igniterB {l_ : Launch} {sa : Nat → Nat} {D : va_G} {X : Nat → ClassId} {ad : Nat → Nat} (x : Int32) (v : Int32) (hb_v : bb v = v) (hbad : x < 0 ∨ 4 ≤ x) (ω : Mem)  : CT l_ yX8_igniter wsX8_igniter rm_X8_igniter sa D (tyX X) 128 ad (mk X ad ω) [.ref (ad 120), .int x, .int v] (some (.int (f_X8_igniterB x v ω).1) : Option Value) (mk X ad (f_X8_igniterB x v ω).2) := by
  refine ct_of [(0, .ref (ad 120)), (1, .int x), (2, .int v)] (by decide +kernel) rfl rfl (Nat.le_of_ble_eq_true rfl) rfl ?_
  intro p_ e_ s_ m_ args_ below_ meth_ c_ C hret hlk hin
  have e1 : (some (.int (f_X8_igniterB x v ω).1) : Option Value) = (some (.int (f_X8_igniterB x v ω).1) : Option Value) := rfl
  have e2 : mk X ad (f_X8_igniterB x v ω).2 = mk X ad (f_X8_igniterB x v ω).2 := rfl
  have iX8 : ∀ w ∈ u_ws RX8 TX8 14, w ∈ wsX8_igniter := by decide +kernel
  have L31 : Cond.fieldLink RX8 31 (TX8 0).1 (TX8 0).2.1 (TX8 0).2.2.1 ∈ wsX8_igniter := by decide +kernel
  refine g_aload_n C dX8_igniter_0 rfl 0 rfl ?_
  refine g_iconst (v := 0) C dX8_igniter_1 (by decide) ?_
  refine g_put C iX8 tyX8 tyX8_ok nmX8 (by decide) (mk_11 (by decide)) rfl 0 (by decide) L31 rfl rfl rfl (Nat.le_of_ble_eq_true rfl) dX8_igniter_2 ?_
  refine gv_eqG (mkp_11_0 (by decide)) ?_
  refine g_iload_n C dX8_igniter_5 rfl 1 rfl ?_
  refine g_callS (rest := []) (st1 := [.int (f_X8_isBurner x (st ω 120 0 0))]) C (c_X8_isBurner x (st ω 120 0 0)) (va_cwS 1 C.hts gX8_igniter_X8_isBurner rfl rfl rfl md_X8_isBurner.2 ⟨Nat.le_of_ble_eq_true rfl, Nat.le_of_ble_eq_true rfl⟩) rfl rfl rfl (Nat.le_of_ble_eq_true rfl) dX8_igniter_6 (Nat.zero_le _) (Nat.zero_le _) ?_
  refine g_if_ne (tgt := 14) C dX8_igniter_9 (by decide) (fun z => absurd (isBurner_bad hbad) z) (fun _ => ?_)
  refine g_iconst (v := (-1)) C dX8_igniter_12 (by decide) ?_
  exact g_iret C hret hlk (e1.trans (pr1 (v := (-1)) (w := (st ω 120 0 0)) rfl)) (e2.trans (pr2 (v := (-1)) (w := (st ω 120 0 0)) rfl)) dX8_igniter_13
abbrev rm_X8_light : Room := { frames := 3, cells := 0, slots := 0, locals := 65 }
theorem md_X8_light : yX8_light.cls = RX8 ∧ yX8_light.cls ≠ "java/lang/invoke/MethodHandle" ∧ yX8_light.cls ≠ "java/lang/invoke/VarHandle" ∧ (parseMethodDescriptor yX8_light.desc).map (fun d => d.parameters.length) = some 1 := by decide +kernel
def f_X8_light_5 (k : Nat) (ω : Mem) : Int32 × Mem := (if (f_X8_isBurner (nI (k)) ω) = 0 then ((-1), ω) else (if (f_X8_isOpen k ω) = 0 then ((-4), ω) else (if (f_X8_get k 4 ω) = 1 then ((-4), ω) else (if (ω 121 5) < (ω 121 3) then (if (f_X8_draftAt ((f_X8_records ω) 121 4) (f_X8_records ω)) ≤ (f_X8_strength k (f_X8_records ω)) then (1, (f_X8_tells 0 (nI (k)) (f_X8_lay k 7 0 (f_X8_lay k 4 1 (f_X8_records ω))))) else (0, (f_X8_records ω))) else ((-4), ω)))))
set_option maxRecDepth 100000 in
set_option maxHeartbeats 4000000 in
theorem k_X8_light_5 {l_ : Launch} {p_ : Program} {e_ : Env} {s_ : State} {m_ : MethodId} {args_ : Array Value} {below_ : List Frame} {meth_ : Method} {c_ : Code} {sa : Nat → Nat} {D : va_G} {X : Nat → ClassId} {ad : Nat → Nat} {G0 : Nat → va_E} (k : Nat) (hk : k < 4) (C : GC p_ rm_X8_light s_ m_ args_ meth_ c_ cX8_light 2 wsX8_light RX8 sa D (tyX X) (va_A (gw 128 ad G0) s_.heap.size)) (hret : meth_.sig.returnType = (some .int)) (hlk : meth_.locks = false) : ∀  (ω : Mem) (hmi : MIn 10 ω) (rv : Option Value) (G2 : Nat → va_E) (e1 : rv = some (.int (f_X8_light_5 k ω).1)) (e2 : G2 = mk X ad (f_X8_light_5 k ω).2), GV p_ l_ e_ rm_X8_light s_ m_ args_ below_ meth_ c_ 0 0 (CQ below_ args_ s_ D 128 ad G0 rv G2) D (va_A (gw 128 ad G0) s_.heap.size) 2 128 ad (mk X ad ω) [(0, .ref (ad 120)), (1, .int (nI (k)))] 5 [] := by
  have iX8 : ∀ w ∈ u_ws RX8 TX8 14, w ∈ wsX8_light := by decide +kernel
  have L7 : Cond.fieldLink RX8 7 (TX8 1).1 (TX8 1).2.1 (TX8 1).2.2.1 ∈ wsX8_light := by decide +kernel
  intro ω hmi rv G2 e1 e2
  refine g_iload_n C dX8_light_5 rfl 1 rfl ?_
  refine g_callS (rest := []) (st1 := [.int (f_X8_isBurner (nI (k)) ω)]) C (c_X8_isBurner (nI (k)) ω) (va_cwS 1 C.hts gX8_light_X8_isBurner rfl rfl rfl md_X8_isBurner.2 ⟨Nat.le_of_ble_eq_true rfl, Nat.le_of_ble_eq_true rfl⟩) rfl rfl rfl (Nat.le_of_ble_eq_true rfl) dX8_light_6 (Nat.zero_le _) (Nat.zero_le _) ?_
  refine g_if_ne (tgt := 14) C dX8_light_9 (by decide) (fun h1 => ?_) (fun h1 => ?_)
  · refine g_aload_n C dX8_light_14 rfl 0 rfl ?_
    refine g_iload_n C dX8_light_15 rfl 1 rfl ?_
    refine g_callV (rest := []) (st1 := [.int (f_X8_isOpen k ω)]) C (c_X8_isOpen k (by omega) ω) (cwV 1 C.hts gX8_light_X8_isOpen rfl rfl rfl md_X8_isOpen ⟨Nat.le_of_ble_eq_true rfl, Nat.le_of_ble_eq_true rfl⟩) (by decide) (mk_11 (by decide)) rfl rfl rfl rfl rfl (Nat.le_of_ble_eq_true rfl) dX8_light_16 (Nat.zero_le _) (Nat.zero_le _) ?_
    refine g_if_eq (tgt := 47) C dX8_light_19 (by decide) (fun h2 => ?_) (fun h2 => ?_)
    · refine g_bipush (v := (-4)) C dX8_light_47 (by decide) ?_
      exact g_iret C hret hlk (e1.trans (pr1 (v := (-4)) (w := ω) ((if_neg h1).trans ((if_pos h2).trans rfl)))) (e2.trans (pr2 (v := (-4)) (w := ω) ((if_neg h1).trans ((if_pos h2).trans rfl)))) dX8_light_49
    · refine g_aload_n C dX8_light_22 rfl 0 rfl ?_
      refine g_iload_n C dX8_light_23 rfl 1 rfl ?_
      refine g_iconst (v := 4) C dX8_light_24 (by decide) ?_
      refine g_callV (rest := []) (st1 := [.int (f_X8_get k 4 ω)]) C (c_X8_get k 4 (by omega) (by omega) ω) (cwV 2 C.hts gX8_light_X8_get rfl rfl rfl md_X8_get ⟨Nat.le_of_ble_eq_true rfl, Nat.le_of_ble_eq_true rfl⟩) (by decide) (mk_11 (by decide)) rfl rfl rfl rfl rfl (Nat.le_of_ble_eq_true rfl) dX8_light_25 (Nat.zero_le _) (Nat.zero_le _) ?_
      refine g_iconst (v := 1) C dX8_light_28 (by decide) ?_
      refine g_icmp_eq (tgt := 47) C dX8_light_29 (by decide) (fun h3 => ?_) (fun h3 => ?_)
      · refine g_bipush (v := (-4)) C dX8_light_47 (by decide) ?_
        exact g_iret C hret hlk (e1.trans (pr1 (v := (-4)) (w := ω) ((if_neg h1).trans ((if_neg h2).trans ((if_pos h3).trans rfl))))) (e2.trans (pr2 (v := (-4)) (w := ω) ((if_neg h1).trans ((if_neg h2).trans ((if_pos h3).trans rfl))))) dX8_light_49
      · refine g_aload_n C dX8_light_32 rfl 0 rfl ?_
        refine g_get (v := .ref (ad 121)) C iX8 (by decide) (mk_11 (by decide)) rfl 1 (by decide) L7 rfl dX8_light_33 ?_
        refine g_iconst (v := 5) C dX8_light_36 (by decide) ?_
        refine g_iald (k := 5) C 0 (by decide) (mk_12n (N := 108) (by decide) (by decide)) rfl (by unfold vp_in; decide) rfl dX8_light_37 ?_
        refine g_aload_n C dX8_light_38 rfl 0 rfl ?_
        refine g_get (v := .ref (ad 121)) C iX8 (by decide) (mk_11 (by decide)) rfl 1 (by decide) L7 rfl dX8_light_39 ?_
        refine g_iconst (v := 3) C dX8_light_42 (by decide) ?_
        refine g_iald (k := 3) C 0 (by decide) (mk_12n (N := 108) (by decide) (by decide)) rfl (by unfold vp_in; decide) rfl dX8_light_43 ?_
        refine g_icmp_lt (tgt := 50) C dX8_light_44 (by decide) (fun h4 => ?_) (fun h4 => ?_)
        · refine g_aload_n C dX8_light_50 rfl 0 rfl ?_
          refine g_callV (rest := []) (st1 := []) C (c_X8_records ω hmi) (cwV 0 C.hts gX8_light_X8_records rfl rfl rfl md_X8_records ⟨Nat.le_of_ble_eq_true rfl, Nat.le_of_ble_eq_true rfl⟩) (by decide) (mk_11 (by decide)) rfl rfl rfl rfl rfl (Nat.le_of_ble_eq_true rfl) dX8_light_51 (Nat.zero_le _) (Nat.zero_le _) ?_
          refine g_aload_n C dX8_light_54 rfl 0 rfl ?_
          refine g_aload_n C dX8_light_55 rfl 0 rfl ?_
          refine g_get (v := .ref (ad 121)) C iX8 (by decide) (mk_11 (by decide)) rfl 1 (by decide) L7 rfl dX8_light_56 ?_
          refine g_iconst (v := 4) C dX8_light_59 (by decide) ?_
          refine g_iald (k := 4) C 0 (by decide) (mk_12n (N := 108) (by decide) (by decide)) rfl (by unfold vp_in; decide) rfl dX8_light_60 ?_
          refine g_callV (rest := []) (st1 := [.int (f_X8_draftAt ((f_X8_records ω) 121 4) (f_X8_records ω))]) C (c_X8_draftAt ((f_X8_records ω) 121 4) (f_X8_records ω) (mi_X8_records ω hmi)) (cwV 1 C.hts gX8_light_X8_draftAt rfl rfl rfl md_X8_draftAt ⟨Nat.le_of_ble_eq_true rfl, Nat.le_of_ble_eq_true rfl⟩) (by decide) (mk_11 (by decide)) rfl rfl rfl rfl rfl (Nat.le_of_ble_eq_true rfl) dX8_light_61 (Nat.zero_le _) (Nat.zero_le _) ?_
          refine g_aload_n C dX8_light_64 rfl 0 rfl ?_
          refine g_iload_n C dX8_light_65 rfl 1 rfl ?_
          refine g_callV (rest := [.int (f_X8_draftAt ((f_X8_records ω) 121 4) (f_X8_records ω))]) (st1 := [.int (f_X8_strength k (f_X8_records ω)), .int (f_X8_draftAt ((f_X8_records ω) 121 4) (f_X8_records ω))]) C (c_X8_strength k (by omega) (f_X8_records ω)) (cwV 1 C.hts gX8_light_X8_strength rfl rfl rfl md_X8_strength ⟨Nat.le_of_ble_eq_true rfl, Nat.le_of_ble_eq_true rfl⟩) (by decide) (mk_11 (by decide)) rfl rfl rfl rfl rfl (Nat.le_of_ble_eq_true rfl) dX8_light_66 (Nat.zero_le _) (Nat.zero_le _) ?_
          refine g_icmp_le (tgt := 74) C dX8_light_69 (by decide) (fun h5 => ?_) (fun h5 => ?_)
          · refine g_aload_n C dX8_light_74 rfl 0 rfl ?_
            refine g_iload_n C dX8_light_75 rfl 1 rfl ?_
            refine g_iconst (v := 4) C dX8_light_76 (by decide) ?_
            refine g_iconst (v := 1) C dX8_light_77 (by decide) ?_
            refine g_callV (rest := []) (st1 := []) C (c_X8_lay k 4 1 (by omega) (by omega) (f_X8_records ω) (mi_X8_records ω hmi)) (cwV 3 C.hts gX8_light_X8_lay rfl rfl rfl md_X8_lay ⟨Nat.le_of_ble_eq_true rfl, Nat.le_of_ble_eq_true rfl⟩) (by decide) (mk_11 (by decide)) rfl rfl rfl rfl rfl (Nat.le_of_ble_eq_true rfl) dX8_light_78 (Nat.zero_le _) (Nat.zero_le _) ?_
            refine g_aload_n C dX8_light_81 rfl 0 rfl ?_
            refine g_iload_n C dX8_light_82 rfl 1 rfl ?_
            refine g_bipush (v := 7) C dX8_light_83 (by decide) ?_
            refine g_iconst (v := 0) C dX8_light_85 (by decide) ?_
            refine g_callV (rest := []) (st1 := []) C (c_X8_lay k 7 0 (by omega) (by omega) (f_X8_lay k 4 1 (f_X8_records ω)) (mi_X8_lay k 4 1 (by omega) (by omega) (f_X8_records ω) (mi_X8_records ω hmi))) (cwV 3 C.hts gX8_light_X8_lay rfl rfl rfl md_X8_lay ⟨Nat.le_of_ble_eq_true rfl, Nat.le_of_ble_eq_true rfl⟩) (by decide) (mk_11 (by decide)) rfl rfl rfl rfl rfl (Nat.le_of_ble_eq_true rfl) dX8_light_86 (Nat.zero_le _) (Nat.zero_le _) ?_
            refine g_aload_n C dX8_light_89 rfl 0 rfl ?_
            refine g_iconst (v := 0) C dX8_light_90 (by decide) ?_
            refine g_iload_n C dX8_light_91 rfl 1 rfl ?_
            refine g_callV (rest := []) (st1 := []) C (c_X8_tells 0 (nI (k)) (by omega) (f_X8_lay k 7 0 (f_X8_lay k 4 1 (f_X8_records ω))) (mi_X8_lay k 7 0 (by omega) (by omega) (f_X8_lay k 4 1 (f_X8_records ω)) (mi_X8_lay k 4 1 (by omega) (by omega) (f_X8_records ω) (mi_X8_records ω hmi)))) (cwV 2 C.hts gX8_light_X8_tells rfl rfl rfl md_X8_tells ⟨Nat.le_of_ble_eq_true rfl, Nat.le_of_ble_eq_true rfl⟩) (by decide) (mk_11 (by decide)) rfl rfl rfl rfl rfl (Nat.le_of_ble_eq_true rfl) dX8_light_92 (Nat.zero_le _) (Nat.zero_le _) ?_
            refine g_iconst (v := 1) C dX8_light_95 (by decide) ?_
            exact g_iret C hret hlk (e1.trans (pr1 (v := 1) (w := (f_X8_tells 0 (nI (k)) (f_X8_lay k 7 0 (f_X8_lay k 4 1 (f_X8_records ω))))) ((if_neg h1).trans ((if_neg h2).trans ((if_neg h3).trans ((if_pos h4).trans ((if_pos h5).trans rfl))))))) (e2.trans (pr2 (v := 1) (w := (f_X8_tells 0 (nI (k)) (f_X8_lay k 7 0 (f_X8_lay k 4 1 (f_X8_records ω))))) ((if_neg h1).trans ((if_neg h2).trans ((if_neg h3).trans ((if_pos h4).trans ((if_pos h5).trans rfl))))))) dX8_light_96
          · refine g_iconst (v := 0) C dX8_light_72 (by decide) ?_
            exact g_iret C hret hlk (e1.trans (pr1 (v := 0) (w := (f_X8_records ω)) ((if_neg h1).trans ((if_neg h2).trans ((if_neg h3).trans ((if_pos h4).trans ((if_neg h5).trans rfl))))))) (e2.trans (pr2 (v := 0) (w := (f_X8_records ω)) ((if_neg h1).trans ((if_neg h2).trans ((if_neg h3).trans ((if_pos h4).trans ((if_neg h5).trans rfl))))))) dX8_light_73
        · refine g_bipush (v := (-4)) C dX8_light_47 (by decide) ?_
          exact g_iret C hret hlk (e1.trans (pr1 (v := (-4)) (w := ω) ((if_neg h1).trans ((if_neg h2).trans ((if_neg h3).trans ((if_neg h4).trans rfl)))))) (e2.trans (pr2 (v := (-4)) (w := ω) ((if_neg h1).trans ((if_neg h2).trans ((if_neg h3).trans ((if_neg h4).trans rfl)))))) dX8_light_49
  · refine g_iconst (v := (-1)) C dX8_light_12 (by decide) ?_
    exact g_iret C hret hlk (e1.trans (pr1 (v := (-1)) (w := ω) ((if_pos h1).trans rfl))) (e2.trans (pr2 (v := (-1)) (w := ω) ((if_pos h1).trans rfl))) dX8_light_13
def f_X8_light (k : Nat) (ω : Mem) : Int32 × Mem := (f_X8_light_5 k (st ω 120 0 0))
set_option maxRecDepth 100000 in
set_option maxHeartbeats 4000000 in
theorem c_X8_light {l_ : Launch} {sa : Nat → Nat} {D : va_G} {X : Nat → ClassId} {ad : Nat → Nat} (k : Nat) (hk : k < 4) (ω : Mem) (hmi : MIn 10 ω) : CT l_ yX8_light wsX8_light rm_X8_light sa D (tyX X) 128 ad (mk X ad ω) [.ref (ad 120), .int (nI (k))] (some (.int (f_X8_light k ω).1) : Option Value) (mk X ad (f_X8_light k ω).2) := by
  refine ct_of [(0, .ref (ad 120)), (1, .int (nI (k)))] (by decide +kernel) rfl rfl (Nat.le_of_ble_eq_true rfl) rfl ?_
  intro p_ e_ s_ m_ args_ below_ meth_ c_ C hret hlk hin
  have e1 : (some (.int (f_X8_light k ω).1) : Option Value) = (some (.int (f_X8_light k ω).1) : Option Value) := rfl
  have e2 : mk X ad (f_X8_light k ω).2 = mk X ad (f_X8_light k ω).2 := rfl
  have iX8 : ∀ w ∈ u_ws RX8 TX8 14, w ∈ wsX8_light := by decide +kernel
  have L31 : Cond.fieldLink RX8 31 (TX8 0).1 (TX8 0).2.1 (TX8 0).2.2.1 ∈ wsX8_light := by decide +kernel
  refine g_aload_n C dX8_light_0 rfl 0 rfl ?_
  refine g_iconst (v := 0) C dX8_light_1 (by decide) ?_
  refine g_put C iX8 tyX8 tyX8_ok nmX8 (by decide) (mk_11 (by decide)) rfl 0 (by decide) L31 rfl rfl rfl (Nat.le_of_ble_eq_true rfl) dX8_light_2 ?_
  refine gv_eqG (mkp_11_0 (by decide)) ?_
  exact k_X8_light_5 k hk C hret hlk  (st ω 120 0 0) (MIn_f hmi (by decide)) _ _ (e1.trans (congrArg (fun z : Int32 × Mem => some (Value.int z.1)) rfl)) (e2.trans (congrArg (fun z : Int32 × Mem => mk X ad z.2) rfl))
def f_X8_lightB (x : Int32) (ω : Mem) : Int32 × Mem := ((-1), (st ω 120 0 0))
set_option maxRecDepth 100000 in
set_option maxHeartbeats 4000000 in
theorem c_X8_lightB {l_ : Launch} {sa : Nat → Nat} {D : va_G} {X : Nat → ClassId} {ad : Nat → Nat} (x : Int32) (hbad : x < 0 ∨ 4 ≤ x) (ω : Mem)  : CT l_ yX8_light wsX8_light rm_X8_light sa D (tyX X) 128 ad (mk X ad ω) [.ref (ad 120), .int x] (some (.int (f_X8_lightB x ω).1) : Option Value) (mk X ad (f_X8_lightB x ω).2) := by
  refine ct_of [(0, .ref (ad 120)), (1, .int x)] (by decide +kernel) rfl rfl (Nat.le_of_ble_eq_true rfl) rfl ?_
  intro p_ e_ s_ m_ args_ below_ meth_ c_ C hret hlk hin
  have e1 : (some (.int (f_X8_lightB x ω).1) : Option Value) = (some (.int (f_X8_lightB x ω).1) : Option Value) := rfl
  have e2 : mk X ad (f_X8_lightB x ω).2 = mk X ad (f_X8_lightB x ω).2 := rfl
  have iX8 : ∀ w ∈ u_ws RX8 TX8 14, w ∈ wsX8_light := by decide +kernel
  have L31 : Cond.fieldLink RX8 31 (TX8 0).1 (TX8 0).2.1 (TX8 0).2.2.1 ∈ wsX8_light := by decide +kernel
  refine g_aload_n C dX8_light_0 rfl 0 rfl ?_
  refine g_iconst (v := 0) C dX8_light_1 (by decide) ?_
  refine g_put C iX8 tyX8 tyX8_ok nmX8 (by decide) (mk_11 (by decide)) rfl 0 (by decide) L31 rfl rfl rfl (Nat.le_of_ble_eq_true rfl) dX8_light_2 ?_
  refine gv_eqG (mkp_11_0 (by decide)) ?_
  refine g_iload_n C dX8_light_5 rfl 1 rfl ?_
  refine g_callS (rest := []) (st1 := [.int (f_X8_isBurner x (st ω 120 0 0))]) C (c_X8_isBurner x (st ω 120 0 0)) (va_cwS 1 C.hts gX8_light_X8_isBurner rfl rfl rfl md_X8_isBurner.2 ⟨Nat.le_of_ble_eq_true rfl, Nat.le_of_ble_eq_true rfl⟩) rfl rfl rfl (Nat.le_of_ble_eq_true rfl) dX8_light_6 (Nat.zero_le _) (Nat.zero_le _) ?_
  refine g_if_ne (tgt := 14) C dX8_light_9 (by decide) (fun z => absurd (isBurner_bad hbad) z) (fun _ => ?_)
  refine g_iconst (v := (-1)) C dX8_light_12 (by decide) ?_
  exact g_iret C hret hlk (e1.trans (pr1 (v := (-1)) (w := (st ω 120 0 0)) rfl)) (e2.trans (pr2 (v := (-1)) (w := (st ω 120 0 0)) rfl)) dX8_light_13
abbrev rm_X8_unlock : Room := { frames := 2, cells := 0, slots := 0, locals := 45 }
theorem md_X8_unlock : yX8_unlock.cls = RX8 ∧ yX8_unlock.cls ≠ "java/lang/invoke/MethodHandle" ∧ yX8_unlock.cls ≠ "java/lang/invoke/VarHandle" ∧ (parseMethodDescriptor yX8_unlock.desc).map (fun d => d.parameters.length) = some 1 := by decide +kernel
def f_X8_unlock_5 (k : Nat) (ω : Mem) : Int32 × Mem := (if (f_X8_isBurner (nI (k)) ω) = 0 then ((-1), ω) else (if (f_X8_get k 6 ω) = 0 then ((-4), ω) else (if (f_X8_get k 1 ω) = 0 then ((f_X8_sumOver 6 (f_X8_lay k 7 0 (f_X8_lay k 6 0 (f_X8_records ω)))), (f_X8_lay k 7 0 (f_X8_lay k 6 0 (f_X8_records ω)))) else ((-4), ω))))
set_option maxRecDepth 100000 in
set_option maxHeartbeats 4000000 in
theorem k_X8_unlock_5 {l_ : Launch} {p_ : Program} {e_ : Env} {s_ : State} {m_ : MethodId} {args_ : Array Value} {below_ : List Frame} {meth_ : Method} {c_ : Code} {sa : Nat → Nat} {D : va_G} {X : Nat → ClassId} {ad : Nat → Nat} {G0 : Nat → va_E} (k : Nat) (hk : k < 4) (C : GC p_ rm_X8_unlock s_ m_ args_ meth_ c_ cX8_unlock 2 wsX8_unlock RX8 sa D (tyX X) (va_A (gw 128 ad G0) s_.heap.size)) (hret : meth_.sig.returnType = (some .int)) (hlk : meth_.locks = false) : ∀  (ω : Mem) (hmi : MIn 10 ω) (rv : Option Value) (G2 : Nat → va_E) (e1 : rv = some (.int (f_X8_unlock_5 k ω).1)) (e2 : G2 = mk X ad (f_X8_unlock_5 k ω).2), GV p_ l_ e_ rm_X8_unlock s_ m_ args_ below_ meth_ c_ 0 0 (CQ below_ args_ s_ D 128 ad G0 rv G2) D (va_A (gw 128 ad G0) s_.heap.size) 2 128 ad (mk X ad ω) [(0, .ref (ad 120)), (1, .int (nI (k)))] 5 [] := by
  intro ω hmi rv G2 e1 e2
  refine g_iload_n C dX8_unlock_5 rfl 1 rfl ?_
  refine g_callS (rest := []) (st1 := [.int (f_X8_isBurner (nI (k)) ω)]) C (c_X8_isBurner (nI (k)) ω) (va_cwS 1 C.hts gX8_unlock_X8_isBurner rfl rfl rfl md_X8_isBurner.2 ⟨Nat.le_of_ble_eq_true rfl, Nat.le_of_ble_eq_true rfl⟩) rfl rfl rfl (Nat.le_of_ble_eq_true rfl) dX8_unlock_6 (Nat.zero_le _) (Nat.zero_le _) ?_
  refine g_if_ne (tgt := 14) C dX8_unlock_9 (by decide) (fun h1 => ?_) (fun h1 => ?_)
  · refine g_aload_n C dX8_unlock_14 rfl 0 rfl ?_
    refine g_iload_n C dX8_unlock_15 rfl 1 rfl ?_
    refine g_bipush (v := 6) C dX8_unlock_16 (by decide) ?_
    refine g_callV (rest := []) (st1 := [.int (f_X8_get k 6 ω)]) C (c_X8_get k 6 (by omega) (by omega) ω) (cwV 2 C.hts gX8_unlock_X8_get rfl rfl rfl md_X8_get ⟨Nat.le_of_ble_eq_true rfl, Nat.le_of_ble_eq_true rfl⟩) (by decide) (mk_11 (by decide)) rfl rfl rfl rfl rfl (Nat.le_of_ble_eq_true rfl) dX8_unlock_18 (Nat.zero_le _) (Nat.zero_le _) ?_
    refine g_if_eq (tgt := 33) C dX8_unlock_21 (by decide) (fun h2 => ?_) (fun h2 => ?_)
    · refine g_bipush (v := (-4)) C dX8_unlock_33 (by decide) ?_
      exact g_iret C hret hlk (e1.trans (pr1 (v := (-4)) (w := ω) ((if_neg h1).trans ((if_pos h2).trans rfl)))) (e2.trans (pr2 (v := (-4)) (w := ω) ((if_neg h1).trans ((if_pos h2).trans rfl)))) dX8_unlock_35
    · refine g_aload_n C dX8_unlock_24 rfl 0 rfl ?_
      refine g_iload_n C dX8_unlock_25 rfl 1 rfl ?_
      refine g_iconst (v := 1) C dX8_unlock_26 (by decide) ?_
      refine g_callV (rest := []) (st1 := [.int (f_X8_get k 1 ω)]) C (c_X8_get k 1 (by omega) (by omega) ω) (cwV 2 C.hts gX8_unlock_X8_get rfl rfl rfl md_X8_get ⟨Nat.le_of_ble_eq_true rfl, Nat.le_of_ble_eq_true rfl⟩) (by decide) (mk_11 (by decide)) rfl rfl rfl rfl rfl (Nat.le_of_ble_eq_true rfl) dX8_unlock_27 (Nat.zero_le _) (Nat.zero_le _) ?_
      refine g_if_eq (tgt := 36) C dX8_unlock_30 (by decide) (fun h3 => ?_) (fun h3 => ?_)
      · refine g_aload_n C dX8_unlock_36 rfl 0 rfl ?_
        refine g_callV (rest := []) (st1 := []) C (c_X8_records ω hmi) (cwV 0 C.hts gX8_unlock_X8_records rfl rfl rfl md_X8_records ⟨Nat.le_of_ble_eq_true rfl, Nat.le_of_ble_eq_true rfl⟩) (by decide) (mk_11 (by decide)) rfl rfl rfl rfl rfl (Nat.le_of_ble_eq_true rfl) dX8_unlock_37 (Nat.zero_le _) (Nat.zero_le _) ?_
        refine g_aload_n C dX8_unlock_40 rfl 0 rfl ?_
        refine g_iload_n C dX8_unlock_41 rfl 1 rfl ?_
        refine g_bipush (v := 6) C dX8_unlock_42 (by decide) ?_
        refine g_iconst (v := 0) C dX8_unlock_44 (by decide) ?_
        refine g_callV (rest := []) (st1 := []) C (c_X8_lay k 6 0 (by omega) (by omega) (f_X8_records ω) (mi_X8_records ω hmi)) (cwV 3 C.hts gX8_unlock_X8_lay rfl rfl rfl md_X8_lay ⟨Nat.le_of_ble_eq_true rfl, Nat.le_of_ble_eq_true rfl⟩) (by decide) (mk_11 (by decide)) rfl rfl rfl rfl rfl (Nat.le_of_ble_eq_true rfl) dX8_unlock_45 (Nat.zero_le _) (Nat.zero_le _) ?_
        refine g_aload_n C dX8_unlock_48 rfl 0 rfl ?_
        refine g_iload_n C dX8_unlock_49 rfl 1 rfl ?_
        refine g_bipush (v := 7) C dX8_unlock_50 (by decide) ?_
        refine g_iconst (v := 0) C dX8_unlock_52 (by decide) ?_
        refine g_callV (rest := []) (st1 := []) C (c_X8_lay k 7 0 (by omega) (by omega) (f_X8_lay k 6 0 (f_X8_records ω)) (mi_X8_lay k 6 0 (by omega) (by omega) (f_X8_records ω) (mi_X8_records ω hmi))) (cwV 3 C.hts gX8_unlock_X8_lay rfl rfl rfl md_X8_lay ⟨Nat.le_of_ble_eq_true rfl, Nat.le_of_ble_eq_true rfl⟩) (by decide) (mk_11 (by decide)) rfl rfl rfl rfl rfl (Nat.le_of_ble_eq_true rfl) dX8_unlock_53 (Nat.zero_le _) (Nat.zero_le _) ?_
        refine g_aload_n C dX8_unlock_56 rfl 0 rfl ?_
        refine g_bipush (v := 6) C dX8_unlock_57 (by decide) ?_
        refine g_callV (rest := []) (st1 := [.int (f_X8_sumOver 6 (f_X8_lay k 7 0 (f_X8_lay k 6 0 (f_X8_records ω))))]) C (c_X8_sumOver 6 (by omega) (f_X8_lay k 7 0 (f_X8_lay k 6 0 (f_X8_records ω)))) (cwV 1 C.hts gX8_unlock_X8_sumOver rfl rfl rfl md_X8_sumOver ⟨Nat.le_of_ble_eq_true rfl, Nat.le_of_ble_eq_true rfl⟩) (by decide) (mk_11 (by decide)) rfl rfl rfl rfl rfl (Nat.le_of_ble_eq_true rfl) dX8_unlock_59 (Nat.zero_le _) (Nat.zero_le _) ?_
        exact g_iret C hret hlk (e1.trans (pr1 (v := (f_X8_sumOver 6 (f_X8_lay k 7 0 (f_X8_lay k 6 0 (f_X8_records ω))))) (w := (f_X8_lay k 7 0 (f_X8_lay k 6 0 (f_X8_records ω)))) ((if_neg h1).trans ((if_neg h2).trans ((if_pos h3).trans rfl))))) (e2.trans (pr2 (v := (f_X8_sumOver 6 (f_X8_lay k 7 0 (f_X8_lay k 6 0 (f_X8_records ω))))) (w := (f_X8_lay k 7 0 (f_X8_lay k 6 0 (f_X8_records ω)))) ((if_neg h1).trans ((if_neg h2).trans ((if_pos h3).trans rfl))))) dX8_unlock_62
      · refine g_bipush (v := (-4)) C dX8_unlock_33 (by decide) ?_
        exact g_iret C hret hlk (e1.trans (pr1 (v := (-4)) (w := ω) ((if_neg h1).trans ((if_neg h2).trans ((if_neg h3).trans rfl))))) (e2.trans (pr2 (v := (-4)) (w := ω) ((if_neg h1).trans ((if_neg h2).trans ((if_neg h3).trans rfl))))) dX8_unlock_35
  · refine g_iconst (v := (-1)) C dX8_unlock_12 (by decide) ?_
    exact g_iret C hret hlk (e1.trans (pr1 (v := (-1)) (w := ω) ((if_pos h1).trans rfl))) (e2.trans (pr2 (v := (-1)) (w := ω) ((if_pos h1).trans rfl))) dX8_unlock_13
def f_X8_unlock (k : Nat) (ω : Mem) : Int32 × Mem := (f_X8_unlock_5 k (st ω 120 0 0))
set_option maxRecDepth 100000 in
set_option maxHeartbeats 4000000 in
theorem c_X8_unlock {l_ : Launch} {sa : Nat → Nat} {D : va_G} {X : Nat → ClassId} {ad : Nat → Nat} (k : Nat) (hk : k < 4) (ω : Mem) (hmi : MIn 10 ω) : CT l_ yX8_unlock wsX8_unlock rm_X8_unlock sa D (tyX X) 128 ad (mk X ad ω) [.ref (ad 120), .int (nI (k))] (some (.int (f_X8_unlock k ω).1) : Option Value) (mk X ad (f_X8_unlock k ω).2) := by
  refine ct_of [(0, .ref (ad 120)), (1, .int (nI (k)))] (by decide +kernel) rfl rfl (Nat.le_of_ble_eq_true rfl) rfl ?_
  intro p_ e_ s_ m_ args_ below_ meth_ c_ C hret hlk hin
  have e1 : (some (.int (f_X8_unlock k ω).1) : Option Value) = (some (.int (f_X8_unlock k ω).1) : Option Value) := rfl
  have e2 : mk X ad (f_X8_unlock k ω).2 = mk X ad (f_X8_unlock k ω).2 := rfl
  have iX8 : ∀ w ∈ u_ws RX8 TX8 14, w ∈ wsX8_unlock := by decide +kernel
  have L31 : Cond.fieldLink RX8 31 (TX8 0).1 (TX8 0).2.1 (TX8 0).2.2.1 ∈ wsX8_unlock := by decide +kernel
  refine g_aload_n C dX8_unlock_0 rfl 0 rfl ?_
  refine g_iconst (v := 0) C dX8_unlock_1 (by decide) ?_
  refine g_put C iX8 tyX8 tyX8_ok nmX8 (by decide) (mk_11 (by decide)) rfl 0 (by decide) L31 rfl rfl rfl (Nat.le_of_ble_eq_true rfl) dX8_unlock_2 ?_
  refine gv_eqG (mkp_11_0 (by decide)) ?_
  exact k_X8_unlock_5 k hk C hret hlk  (st ω 120 0 0) (MIn_f hmi (by decide)) _ _ (e1.trans (congrArg (fun z : Int32 × Mem => some (Value.int z.1)) rfl)) (e2.trans (congrArg (fun z : Int32 × Mem => mk X ad z.2) rfl))
def f_X8_unlockB (x : Int32) (ω : Mem) : Int32 × Mem := ((-1), (st ω 120 0 0))
set_option maxRecDepth 100000 in
set_option maxHeartbeats 4000000 in
theorem c_X8_unlockB {l_ : Launch} {sa : Nat → Nat} {D : va_G} {X : Nat → ClassId} {ad : Nat → Nat} (x : Int32) (hbad : x < 0 ∨ 4 ≤ x) (ω : Mem)  : CT l_ yX8_unlock wsX8_unlock rm_X8_unlock sa D (tyX X) 128 ad (mk X ad ω) [.ref (ad 120), .int x] (some (.int (f_X8_unlockB x ω).1) : Option Value) (mk X ad (f_X8_unlockB x ω).2) := by
  refine ct_of [(0, .ref (ad 120)), (1, .int x)] (by decide +kernel) rfl rfl (Nat.le_of_ble_eq_true rfl) rfl ?_
  intro p_ e_ s_ m_ args_ below_ meth_ c_ C hret hlk hin
  have e1 : (some (.int (f_X8_unlockB x ω).1) : Option Value) = (some (.int (f_X8_unlockB x ω).1) : Option Value) := rfl
  have e2 : mk X ad (f_X8_unlockB x ω).2 = mk X ad (f_X8_unlockB x ω).2 := rfl
  have iX8 : ∀ w ∈ u_ws RX8 TX8 14, w ∈ wsX8_unlock := by decide +kernel
  have L31 : Cond.fieldLink RX8 31 (TX8 0).1 (TX8 0).2.1 (TX8 0).2.2.1 ∈ wsX8_unlock := by decide +kernel
  refine g_aload_n C dX8_unlock_0 rfl 0 rfl ?_
  refine g_iconst (v := 0) C dX8_unlock_1 (by decide) ?_
  refine g_put C iX8 tyX8 tyX8_ok nmX8 (by decide) (mk_11 (by decide)) rfl 0 (by decide) L31 rfl rfl rfl (Nat.le_of_ble_eq_true rfl) dX8_unlock_2 ?_
  refine gv_eqG (mkp_11_0 (by decide)) ?_
  refine g_iload_n C dX8_unlock_5 rfl 1 rfl ?_
  refine g_callS (rest := []) (st1 := [.int (f_X8_isBurner x (st ω 120 0 0))]) C (c_X8_isBurner x (st ω 120 0 0)) (va_cwS 1 C.hts gX8_unlock_X8_isBurner rfl rfl rfl md_X8_isBurner.2 ⟨Nat.le_of_ble_eq_true rfl, Nat.le_of_ble_eq_true rfl⟩) rfl rfl rfl (Nat.le_of_ble_eq_true rfl) dX8_unlock_6 (Nat.zero_le _) (Nat.zero_le _) ?_
  refine g_if_ne (tgt := 14) C dX8_unlock_9 (by decide) (fun z => absurd (isBurner_bad hbad) z) (fun _ => ?_)
  refine g_iconst (v := (-1)) C dX8_unlock_12 (by decide) ?_
  exact g_iret C hret hlk (e1.trans (pr1 (v := (-1)) (w := (st ω 120 0 0)) rfl)) (e2.trans (pr2 (v := (-1)) (w := (st ω 120 0 0)) rfl)) dX8_unlock_13
abbrev rm_X8_pass : Room := { frames := 6, cells := 0, slots := 0, locals := 138 }
theorem md_X8_pass : yX8_pass.cls = RX8 ∧ yX8_pass.cls ≠ "java/lang/invoke/MethodHandle" ∧ yX8_pass.cls ≠ "java/lang/invoke/VarHandle" ∧ (parseMethodDescriptor yX8_pass.desc).map (fun d => d.parameters.length) = some 1 := by decide +kernel
def f_X8_pass_46 : Nat → Nat → Int32 → Nat → Mem → Int32 × Mem
  | 0, _, _, _, ω => (0, ω)
  | fu + 1, t, v, j, ω => (if t ≤ j then (((f_X8_totals ω) - v), ω) else (f_X8_pass_46 fu t v (j + 1) (f_X8_ticks ω)))
set_option maxRecDepth 100000 in
set_option maxHeartbeats 4000000 in
theorem k_X8_pass_46 {l_ : Launch} {p_ : Program} {e_ : Env} {s_ : State} {m_ : MethodId} {args_ : Array Value} {below_ : List Frame} {meth_ : Method} {c_ : Code} {sa : Nat → Nat} {D : va_G} {X : Nat → ClassId} {ad : Nat → Nat} {G0 : Nat → va_E} (fu : Nat) (t : Nat) (ht : 1 ≤ t ∧ t ≤ 200) (C : GC p_ rm_X8_pass s_ m_ args_ meth_ c_ cX8_pass 4 wsX8_pass RX8 sa D (tyX X) (va_A (gw 128 ad G0) s_.heap.size)) (hret : meth_.sig.returnType = (some .int)) (hlk : meth_.locks = false) : ∀ (v : Int32) (j : Nat) (ω : Mem) (hmi : MIn 10 ω) (hj : j ≤ t) (hfuel : t < j + fu) (rv : Option Value) (G2 : Nat → va_E) (e1 : rv = some (.int (f_X8_pass_46 fu t v j ω).1)) (e2 : G2 = mk X ad (f_X8_pass_46 fu t v j ω).2), GV p_ l_ e_ rm_X8_pass s_ m_ args_ below_ meth_ c_ 0 0 (CQ below_ args_ s_ D 128 ad G0 rv G2) D (va_A (gw 128 ad G0) s_.heap.size) 4 128 ad (mk X ad ω) [(0, .ref (ad 120)), (1, .int (nI (t))), (2, .int v), (3, .int (nI (j)))] 46 [] := by
  induction fu with
  | zero =>
    intro v j ω hmi hj hfuel rv G2 e1 e2
    exact absurd hfuel (by omega)
  | succ fu ih =>
    intro v j ω hmi hj hfuel rv G2 e1 e2
    refine g_iload_n C dX8_pass_46 rfl 3 rfl ?_
    refine g_iload_n C dX8_pass_47 rfl 1 rfl ?_
    refine g_icmp_ge (tgt := 61) C dX8_pass_48 (by decide) (fun h1 => ?_) (fun h1 => ?_)
    · have h1n := (nI_leI (a := t) (b := j) (by omega) (by omega)).mp h1
      refine g_aload_n C dX8_pass_61 rfl 0 rfl ?_
      refine g_callV (rest := []) (st1 := [.int (f_X8_totals ω)]) C (c_X8_totals ω) (cwV 0 C.hts gX8_pass_X8_totals rfl rfl rfl md_X8_totals ⟨Nat.le_of_ble_eq_true rfl, Nat.le_of_ble_eq_true rfl⟩) (by decide) (mk_11 (by decide)) rfl rfl rfl rfl rfl (Nat.le_of_ble_eq_true rfl) dX8_pass_62 (Nat.zero_le _) (Nat.zero_le _) ?_
      refine g_iload_n C dX8_pass_65 rfl 2 rfl ?_
      refine g_isub (v := ((f_X8_totals ω) - v)) C dX8_pass_66 rfl ?_
      exact g_iret C hret hlk (e1.trans (pr1 (v := ((f_X8_totals ω) - v)) (w := ω) ((if_pos h1n).trans rfl))) (e2.trans (pr2 (v := ((f_X8_totals ω) - v)) (w := ω) ((if_pos h1n).trans rfl))) dX8_pass_67
    · have h1n := (not_congr (nI_leI (a := t) (b := j) (by omega) (by omega))).mp h1
      refine g_aload_n C dX8_pass_51 rfl 0 rfl ?_
      refine g_callV (rest := []) (st1 := []) C (c_X8_ticks ω hmi) (cwV 0 C.hts gX8_pass_X8_ticks rfl rfl rfl md_X8_ticks ⟨Nat.le_of_ble_eq_true rfl, Nat.le_of_ble_eq_true rfl⟩) (by decide) (mk_11 (by decide)) rfl rfl rfl rfl rfl (Nat.le_of_ble_eq_true rfl) dX8_pass_52 (Nat.zero_le _) (Nat.zero_le _) ?_
      refine g_iinc (k := 3) (v := (nI (j + 1))) (lv' := [(3, .int (nI (j + 1))), (0, .ref (ad 120)), (1, .int (nI (t))), (2, .int v)]) C dX8_pass_55 rfl (nI_1 (j)) (by decide) rfl ?_
      refine g_goto (tgt := 46) C dX8_pass_58 (by decide) ?_
      refine gv_lv (lv' := [(0, .ref (ad 120)), (1, .int (nI (t))), (2, .int v), (3, .int (nI (j + 1)))]) [1, 2, 3, 0] rfl ?_
      exact ih v (j + 1) (f_X8_ticks ω) (mi_X8_ticks ω hmi) (by omega) (by omega) _ _ (e1.trans (congrArg (fun z : Int32 × Mem => some (Value.int z.1)) ((if_neg h1n).trans rfl))) (e2.trans (congrArg (fun z : Int32 × Mem => mk X ad z.2) ((if_neg h1n).trans rfl)))
def f_X8_pass_5 (t : Nat) (ω : Mem) : Int32 × Mem := (if (f_X8_in (nI (t)) 1 200 ω) = 0 then ((-2), ω) else (if ((ω 121 4) + (nI (t))) ≤ 99999 then (f_X8_pass_46 201 t (f_X8_totals (f_X8_records ω)) 0 (f_X8_records ω)) else ((-3), ω)))
set_option maxRecDepth 100000 in
set_option maxHeartbeats 4000000 in
theorem k_X8_pass_5 {l_ : Launch} {p_ : Program} {e_ : Env} {s_ : State} {m_ : MethodId} {args_ : Array Value} {below_ : List Frame} {meth_ : Method} {c_ : Code} {sa : Nat → Nat} {D : va_G} {X : Nat → ClassId} {ad : Nat → Nat} {G0 : Nat → va_E} (t : Nat) (ht : 1 ≤ t ∧ t ≤ 200) (C : GC p_ rm_X8_pass s_ m_ args_ meth_ c_ cX8_pass 4 wsX8_pass RX8 sa D (tyX X) (va_A (gw 128 ad G0) s_.heap.size)) (hret : meth_.sig.returnType = (some .int)) (hlk : meth_.locks = false) : ∀  (ω : Mem) (hmi : MIn 10 ω) (rv : Option Value) (G2 : Nat → va_E) (e1 : rv = some (.int (f_X8_pass_5 t ω).1)) (e2 : G2 = mk X ad (f_X8_pass_5 t ω).2), GV p_ l_ e_ rm_X8_pass s_ m_ args_ below_ meth_ c_ 0 0 (CQ below_ args_ s_ D 128 ad G0 rv G2) D (va_A (gw 128 ad G0) s_.heap.size) 4 128 ad (mk X ad ω) [(0, .ref (ad 120)), (1, .int (nI (t)))] 5 [] := by
  have iX8 : ∀ w ∈ u_ws RX8 TX8 14, w ∈ wsX8_pass := by decide +kernel
  have K142 : Cond.constant RX8 142 99999 ∈ wsX8_pass := by decide +kernel
  have L7 : Cond.fieldLink RX8 7 (TX8 1).1 (TX8 1).2.1 (TX8 1).2.2.1 ∈ wsX8_pass := by decide +kernel
  intro ω hmi rv G2 e1 e2
  refine g_iload_n C dX8_pass_5 rfl 1 rfl ?_
  refine g_iconst (v := 1) C dX8_pass_6 (by decide) ?_
  refine g_sipush (v := 200) C dX8_pass_7 (by decide) ?_
  refine g_callS (rest := []) (st1 := [.int (f_X8_in (nI (t)) 1 200 ω)]) C (c_X8_in (nI (t)) 1 200 ω) (va_cwS 3 C.hts gX8_pass_X8_in rfl rfl rfl md_X8_in.2 ⟨Nat.le_of_ble_eq_true rfl, Nat.le_of_ble_eq_true rfl⟩) rfl rfl rfl (Nat.le_of_ble_eq_true rfl) dX8_pass_10 (Nat.zero_le _) (Nat.zero_le _) ?_
  refine g_if_ne (tgt := 19) C dX8_pass_13 (by decide) (fun h1 => ?_) (fun h1 => ?_)
  · refine g_aload_n C dX8_pass_19 rfl 0 rfl ?_
    refine g_get (v := .ref (ad 121)) C iX8 (by decide) (mk_11 (by decide)) rfl 1 (by decide) L7 rfl dX8_pass_20 ?_
    refine g_iconst (v := 4) C dX8_pass_23 (by decide) ?_
    refine g_iald (k := 4) C 0 (by decide) (mk_12n (N := 108) (by decide) (by decide)) rfl (by unfold vp_in; decide) rfl dX8_pass_24 ?_
    refine g_iload_n C dX8_pass_25 rfl 1 rfl ?_
    refine g_iadd (v := ((ω 121 4) + (nI (t)))) C dX8_pass_26 rfl ?_
    refine g_ldc (v := 99999) C (C.hts _ K142) dX8_pass_27 ?_
    refine g_icmp_le (tgt := 35) C dX8_pass_29 (by decide) (fun h2 => ?_) (fun h2 => ?_)
    · refine g_aload_n C dX8_pass_35 rfl 0 rfl ?_
      refine g_callV (rest := []) (st1 := []) C (c_X8_records ω hmi) (cwV 0 C.hts gX8_pass_X8_records rfl rfl rfl md_X8_records ⟨Nat.le_of_ble_eq_true rfl, Nat.le_of_ble_eq_true rfl⟩) (by decide) (mk_11 (by decide)) rfl rfl rfl rfl rfl (Nat.le_of_ble_eq_true rfl) dX8_pass_36 (Nat.zero_le _) (Nat.zero_le _) ?_
      refine g_aload_n C dX8_pass_39 rfl 0 rfl ?_
      refine g_callV (rest := []) (st1 := [.int (f_X8_totals (f_X8_records ω))]) C (c_X8_totals (f_X8_records ω)) (cwV 0 C.hts gX8_pass_X8_totals rfl rfl rfl md_X8_totals ⟨Nat.le_of_ble_eq_true rfl, Nat.le_of_ble_eq_true rfl⟩) (by decide) (mk_11 (by decide)) rfl rfl rfl rfl rfl (Nat.le_of_ble_eq_true rfl) dX8_pass_40 (Nat.zero_le _) (Nat.zero_le _) ?_
      refine g_istore_n (lv' := [(2, .int (f_X8_totals (f_X8_records ω))), (0, .ref (ad 120)), (1, .int (nI (t)))]) C dX8_pass_43 rfl (by decide) rfl ?_
      refine g_iconst (v := 0) C dX8_pass_44 (by decide) ?_
      refine g_istore_n (lv' := [(3, .int 0), (2, .int (f_X8_totals (f_X8_records ω))), (0, .ref (ad 120)), (1, .int (nI (t)))]) C dX8_pass_45 rfl (by decide) rfl ?_
      refine gv_lv (lv' := [(0, .ref (ad 120)), (1, .int (nI (t))), (2, .int (f_X8_totals (f_X8_records ω))), (3, .int 0)]) [2, 3, 1, 0] rfl ?_
      exact k_X8_pass_46 (201) t ht C hret hlk (f_X8_totals (f_X8_records ω)) 0 (f_X8_records ω) (mi_X8_records ω hmi) (by omega) (by omega) _ _ (e1.trans (congrArg (fun z : Int32 × Mem => some (Value.int z.1)) ((if_neg h1).trans ((if_pos h2).trans rfl)))) (e2.trans (congrArg (fun z : Int32 × Mem => mk X ad z.2) ((if_neg h1).trans ((if_pos h2).trans rfl))))
    · refine g_bipush (v := (-3)) C dX8_pass_32 (by decide) ?_
      exact g_iret C hret hlk (e1.trans (pr1 (v := (-3)) (w := ω) ((if_neg h1).trans ((if_neg h2).trans rfl)))) (e2.trans (pr2 (v := (-3)) (w := ω) ((if_neg h1).trans ((if_neg h2).trans rfl)))) dX8_pass_34
  · refine g_bipush (v := (-2)) C dX8_pass_16 (by decide) ?_
    exact g_iret C hret hlk (e1.trans (pr1 (v := (-2)) (w := ω) ((if_pos h1).trans rfl))) (e2.trans (pr2 (v := (-2)) (w := ω) ((if_pos h1).trans rfl))) dX8_pass_18
def f_X8_pass (t : Nat) (ω : Mem) : Int32 × Mem := (f_X8_pass_5 t (st ω 120 0 0))
set_option maxRecDepth 100000 in
set_option maxHeartbeats 4000000 in
theorem c_X8_pass {l_ : Launch} {sa : Nat → Nat} {D : va_G} {X : Nat → ClassId} {ad : Nat → Nat} (t : Nat) (ht : 1 ≤ t ∧ t ≤ 200) (ω : Mem) (hmi : MIn 10 ω) : CT l_ yX8_pass wsX8_pass rm_X8_pass sa D (tyX X) 128 ad (mk X ad ω) [.ref (ad 120), .int (nI (t))] (some (.int (f_X8_pass t ω).1) : Option Value) (mk X ad (f_X8_pass t ω).2) := by
  refine ct_of [(0, .ref (ad 120)), (1, .int (nI (t)))] (by decide +kernel) rfl rfl (Nat.le_of_ble_eq_true rfl) rfl ?_
  intro p_ e_ s_ m_ args_ below_ meth_ c_ C hret hlk hin
  have e1 : (some (.int (f_X8_pass t ω).1) : Option Value) = (some (.int (f_X8_pass t ω).1) : Option Value) := rfl
  have e2 : mk X ad (f_X8_pass t ω).2 = mk X ad (f_X8_pass t ω).2 := rfl
  have iX8 : ∀ w ∈ u_ws RX8 TX8 14, w ∈ wsX8_pass := by decide +kernel
  have L31 : Cond.fieldLink RX8 31 (TX8 0).1 (TX8 0).2.1 (TX8 0).2.2.1 ∈ wsX8_pass := by decide +kernel
  refine g_aload_n C dX8_pass_0 rfl 0 rfl ?_
  refine g_iconst (v := 0) C dX8_pass_1 (by decide) ?_
  refine g_put C iX8 tyX8 tyX8_ok nmX8 (by decide) (mk_11 (by decide)) rfl 0 (by decide) L31 rfl rfl rfl (Nat.le_of_ble_eq_true rfl) dX8_pass_2 ?_
  refine gv_eqG (mkp_11_0 (by decide)) ?_
  exact k_X8_pass_5 t ht C hret hlk  (st ω 120 0 0) (MIn_f hmi (by decide)) _ _ (e1.trans (congrArg (fun z : Int32 × Mem => some (Value.int z.1)) rfl)) (e2.trans (congrArg (fun z : Int32 × Mem => mk X ad z.2) rfl))
def f_X8_passB (x : Int32) (ω : Mem) : Int32 × Mem := ((-2), (st ω 120 0 0))
set_option maxRecDepth 100000 in
set_option maxHeartbeats 4000000 in
theorem c_X8_passB {l_ : Launch} {sa : Nat → Nat} {D : va_G} {X : Nat → ClassId} {ad : Nat → Nat} (x : Int32) (hbad : x < 1 ∨ 200 < x) (ω : Mem)  : CT l_ yX8_pass wsX8_pass rm_X8_pass sa D (tyX X) 128 ad (mk X ad ω) [.ref (ad 120), .int x] (some (.int (f_X8_passB x ω).1) : Option Value) (mk X ad (f_X8_passB x ω).2) := by
  refine ct_of [(0, .ref (ad 120)), (1, .int x)] (by decide +kernel) rfl rfl (Nat.le_of_ble_eq_true rfl) rfl ?_
  intro p_ e_ s_ m_ args_ below_ meth_ c_ C hret hlk hin
  have e1 : (some (.int (f_X8_passB x ω).1) : Option Value) = (some (.int (f_X8_passB x ω).1) : Option Value) := rfl
  have e2 : mk X ad (f_X8_passB x ω).2 = mk X ad (f_X8_passB x ω).2 := rfl
  have iX8 : ∀ w ∈ u_ws RX8 TX8 14, w ∈ wsX8_pass := by decide +kernel
  have L31 : Cond.fieldLink RX8 31 (TX8 0).1 (TX8 0).2.1 (TX8 0).2.2.1 ∈ wsX8_pass := by decide +kernel
  refine g_aload_n C dX8_pass_0 rfl 0 rfl ?_
  refine g_iconst (v := 0) C dX8_pass_1 (by decide) ?_
  refine g_put C iX8 tyX8 tyX8_ok nmX8 (by decide) (mk_11 (by decide)) rfl 0 (by decide) L31 rfl rfl rfl (Nat.le_of_ble_eq_true rfl) dX8_pass_2 ?_
  refine gv_eqG (mkp_11_0 (by decide)) ?_
  refine g_iload_n C dX8_pass_5 rfl 1 rfl ?_
  refine g_iconst (v := 1) C dX8_pass_6 (by decide) ?_
  refine g_sipush (v := 200) C dX8_pass_7 (by decide) ?_
  refine g_callS (rest := []) (st1 := [.int (f_X8_in x 1 200 (st ω 120 0 0))]) C (c_X8_in x 1 200 (st ω 120 0 0)) (va_cwS 3 C.hts gX8_pass_X8_in rfl rfl rfl md_X8_in.2 ⟨Nat.le_of_ble_eq_true rfl, Nat.le_of_ble_eq_true rfl⟩) rfl rfl rfl (Nat.le_of_ble_eq_true rfl) dX8_pass_10 (Nat.zero_le _) (Nat.zero_le _) ?_
  refine g_if_ne (tgt := 19) C dX8_pass_13 (by decide) (fun z => absurd (inW_bad hbad) z) (fun _ => ?_)
  refine g_bipush (v := (-2)) C dX8_pass_16 (by decide) ?_
  exact g_iret C hret hlk (e1.trans (pr1 (v := (-2)) (w := (st ω 120 0 0)) rfl)) (e2.trans (pr2 (v := (-2)) (w := (st ω 120 0 0)) rfl)) dX8_pass_18
abbrev rm_X8_type : Room := { frames := 0, cells := 0, slots := 0, locals := 0 }
theorem md_X8_type : yX8_type.cls = RX8 ∧ yX8_type.cls ≠ "java/lang/invoke/MethodHandle" ∧ yX8_type.cls ≠ "java/lang/invoke/VarHandle" ∧ (parseMethodDescriptor yX8_type.desc).map (fun d => d.parameters.length) = some 1 := by decide +kernel
def f_X8_type (c : Int32) (ω : Mem) : Int32 × Mem := (if ((st ω 120 0 0) 120 8) = 60 then ((-3), (st ω 120 0 0)) else (((st (st (st ω 120 0 0) 125 (((st ω 120 0 0) 120 8).toNatClampNeg) c) 120 8 (((st (st ω 120 0 0) 125 (((st ω 120 0 0) 120 8).toNatClampNeg) c) 120 8) + 1)) 120 8), (st (st (st ω 120 0 0) 125 (((st ω 120 0 0) 120 8).toNatClampNeg) c) 120 8 (((st (st ω 120 0 0) 125 (((st ω 120 0 0) 120 8).toNatClampNeg) c) 120 8) + 1))))
set_option maxRecDepth 100000 in
set_option maxHeartbeats 4000000 in
theorem c_X8_type {l_ : Launch} {sa : Nat → Nat} {D : va_G} {X : Nat → ClassId} {ad : Nat → Nat} (c : Int32) (ω : Mem) (htx : rg (ω 120 8) 60) : CT l_ yX8_type wsX8_type rm_X8_type sa D (tyX X) 128 ad (mk X ad ω) [.ref (ad 120), .int c] (some (.int (f_X8_type c ω).1) : Option Value) (mk X ad (f_X8_type c ω).2) := by
  refine ct_of [(0, .ref (ad 120)), (1, .int c)] (by decide +kernel) rfl rfl (Nat.le_of_ble_eq_true rfl) rfl ?_
  intro p_ e_ s_ m_ args_ below_ meth_ c_ C hret hlk hin
  have e1 : (some (.int (f_X8_type c ω).1) : Option Value) = (some (.int (f_X8_type c ω).1) : Option Value) := rfl
  have e2 : mk X ad (f_X8_type c ω).2 = mk X ad (f_X8_type c ω).2 := rfl
  have iX8 : ∀ w ∈ u_ws RX8 TX8 14, w ∈ wsX8_type := by decide +kernel
  have L113 : Cond.fieldLink RX8 113 (TX8 8).1 (TX8 8).2.1 (TX8 8).2.2.1 ∈ wsX8_type := by decide +kernel
  have L22 : Cond.fieldLink RX8 22 (TX8 7).1 (TX8 7).2.1 (TX8 7).2.2.1 ∈ wsX8_type := by decide +kernel
  have L31 : Cond.fieldLink RX8 31 (TX8 0).1 (TX8 0).2.1 (TX8 0).2.2.1 ∈ wsX8_type := by decide +kernel
  refine g_aload_n C dX8_type_0 rfl 0 rfl ?_
  refine g_iconst (v := 0) C dX8_type_1 (by decide) ?_
  refine g_put C iX8 tyX8 tyX8_ok nmX8 (by decide) (mk_11 (by decide)) rfl 0 (by decide) L31 rfl rfl rfl (Nat.le_of_ble_eq_true rfl) dX8_type_2 ?_
  refine gv_eqG (mkp_11_0 (by decide)) ?_
  refine g_aload_n C dX8_type_5 rfl 0 rfl ?_
  refine g_get (v := .int ((st ω 120 0 0) 120 8)) C iX8 (by decide) (mk_11 (by decide)) rfl 8 (by decide) L113 rfl dX8_type_6 ?_
  refine g_bipush (v := 60) C dX8_type_9 (by decide) ?_
  refine g_icmp_ne (tgt := 17) C dX8_type_11 (by decide) (fun h1 => ?_) (fun h1 => ?_)
  · refine g_aload_n C dX8_type_17 rfl 0 rfl ?_
    refine g_get (v := .ref (ad 125)) C iX8 (by decide) (mk_11 (by decide)) rfl 7 (by decide) L22 rfl dX8_type_18 ?_
    refine g_aload_n C dX8_type_21 rfl 0 rfl ?_
    refine g_get (v := .int ((st ω 120 0 0) 120 8)) C iX8 (by decide) (mk_11 (by decide)) rfl 8 (by decide) L113 rfl dX8_type_22 ?_
    have hz2 : ((st ω 120 0 0) 120 8).toNatClampNeg ≤ _ := ((rg_ne (n := 59) htx (by decide) h1)).2
    refine gv_eqS (st' := [.int (nI (((st ω 120 0 0) 120 8).toNatClampNeg)), .ref (ad 125)]) (congrArg (fun z : Int32 => ([Value.int z, .ref (ad 125)] : List Value)) ((rg_ne (n := 59) htx (by decide) h1)).1) ?_
    refine g_iload_n C dX8_type_25 rfl 1 rfl ?_
    refine g_iast (k := ((st ω 120 0 0) 120 8).toNatClampNeg) C 0 (by decide) (mk_12n (N := 60) (by decide) (by decide)) rfl (vp_in_nI (n := ((st ω 120 0 0) 120 8).toNatClampNeg) (by omega) (by decide)) (nI_clamp (n := ((st ω 120 0 0) 120 8).toNatClampNeg) (by omega)) dX8_type_26 ?_
    refine gv_eqG (mk_row (N := 60) (by decide) (by decide)) ?_
    refine g_aload_n C dX8_type_27 rfl 0 rfl ?_
    refine g_dup C dX8_type_28 rfl ?_
    refine g_get (v := .int ((st (st ω 120 0 0) 125 (((st ω 120 0 0) 120 8).toNatClampNeg) c) 120 8)) C iX8 (by decide) (mk_11 (by decide)) rfl 8 (by decide) L113 rfl dX8_type_29 ?_
    refine g_iconst (v := 1) C dX8_type_32 (by decide) ?_
    refine g_iadd (v := (((st (st ω 120 0 0) 125 (((st ω 120 0 0) 120 8).toNatClampNeg) c) 120 8) + 1)) C dX8_type_33 rfl ?_
    refine g_put C iX8 tyX8 tyX8_ok nmX8 (by decide) (mk_11 (by decide)) rfl 8 (by decide) L113 rfl rfl rfl (Nat.le_of_ble_eq_true rfl) dX8_type_34 ?_
    refine gv_eqG (mkp_11_8 (by decide)) ?_
    refine g_aload_n C dX8_type_37 rfl 0 rfl ?_
    refine g_get (v := .int ((st (st (st ω 120 0 0) 125 (((st ω 120 0 0) 120 8).toNatClampNeg) c) 120 8 (((st (st ω 120 0 0) 125 (((st ω 120 0 0) 120 8).toNatClampNeg) c) 120 8) + 1)) 120 8)) C iX8 (by decide) (mk_11 (by decide)) rfl 8 (by decide) L113 rfl dX8_type_38 ?_
    exact g_iret C hret hlk (e1.trans (pr1 (v := ((st (st (st ω 120 0 0) 125 (((st ω 120 0 0) 120 8).toNatClampNeg) c) 120 8 (((st (st ω 120 0 0) 125 (((st ω 120 0 0) 120 8).toNatClampNeg) c) 120 8) + 1)) 120 8)) (w := (st (st (st ω 120 0 0) 125 (((st ω 120 0 0) 120 8).toNatClampNeg) c) 120 8 (((st (st ω 120 0 0) 125 (((st ω 120 0 0) 120 8).toNatClampNeg) c) 120 8) + 1))) ((if_neg h1).trans rfl))) (e2.trans (pr2 (v := ((st (st (st ω 120 0 0) 125 (((st ω 120 0 0) 120 8).toNatClampNeg) c) 120 8 (((st (st ω 120 0 0) 125 (((st ω 120 0 0) 120 8).toNatClampNeg) c) 120 8) + 1)) 120 8)) (w := (st (st (st ω 120 0 0) 125 (((st ω 120 0 0) 120 8).toNatClampNeg) c) 120 8 (((st (st ω 120 0 0) 125 (((st ω 120 0 0) 120 8).toNatClampNeg) c) 120 8) + 1))) ((if_neg h1).trans rfl))) dX8_type_41
  · refine g_bipush (v := (-3)) C dX8_type_14 (by decide) ?_
    exact g_iret C hret hlk (e1.trans (pr1 (v := (-3)) (w := (st ω 120 0 0)) ((if_pos h1).trans rfl))) (e2.trans (pr2 (v := (-3)) (w := (st ω 120 0 0)) ((if_pos h1).trans rfl))) dX8_type_16
abbrev rm_X8_clearText : Room := { frames := 0, cells := 0, slots := 0, locals := 0 }
theorem md_X8_clearText : yX8_clearText.cls = RX8 ∧ yX8_clearText.cls ≠ "java/lang/invoke/MethodHandle" ∧ yX8_clearText.cls ≠ "java/lang/invoke/VarHandle" ∧ (parseMethodDescriptor yX8_clearText.desc).map (fun d => d.parameters.length) = some 0 := by decide +kernel
def f_X8_clearText  (ω : Mem) : Int32 × Mem := (((st ω 120 0 0) 120 8), (st (st ω 120 0 0) 120 8 0))
set_option maxRecDepth 100000 in
set_option maxHeartbeats 4000000 in
theorem c_X8_clearText {l_ : Launch} {sa : Nat → Nat} {D : va_G} {X : Nat → ClassId} {ad : Nat → Nat}  (ω : Mem)  : CT l_ yX8_clearText wsX8_clearText rm_X8_clearText sa D (tyX X) 128 ad (mk X ad ω) [.ref (ad 120)] (some (.int (f_X8_clearText ω).1) : Option Value) (mk X ad (f_X8_clearText ω).2) := by
  refine ct_of [(0, .ref (ad 120))] (by decide +kernel) rfl rfl (Nat.le_of_ble_eq_true rfl) rfl ?_
  intro p_ e_ s_ m_ args_ below_ meth_ c_ C hret hlk hin
  have e1 : (some (.int (f_X8_clearText ω).1) : Option Value) = (some (.int (f_X8_clearText ω).1) : Option Value) := rfl
  have e2 : mk X ad (f_X8_clearText ω).2 = mk X ad (f_X8_clearText ω).2 := rfl
  have iX8 : ∀ w ∈ u_ws RX8 TX8 14, w ∈ wsX8_clearText := by decide +kernel
  have L113 : Cond.fieldLink RX8 113 (TX8 8).1 (TX8 8).2.1 (TX8 8).2.2.1 ∈ wsX8_clearText := by decide +kernel
  have L31 : Cond.fieldLink RX8 31 (TX8 0).1 (TX8 0).2.1 (TX8 0).2.2.1 ∈ wsX8_clearText := by decide +kernel
  refine g_aload_n C dX8_clearText_0 rfl 0 rfl ?_
  refine g_iconst (v := 0) C dX8_clearText_1 (by decide) ?_
  refine g_put C iX8 tyX8 tyX8_ok nmX8 (by decide) (mk_11 (by decide)) rfl 0 (by decide) L31 rfl rfl rfl (Nat.le_of_ble_eq_true rfl) dX8_clearText_2 ?_
  refine gv_eqG (mkp_11_0 (by decide)) ?_
  refine g_aload_n C dX8_clearText_5 rfl 0 rfl ?_
  refine g_get (v := .int ((st ω 120 0 0) 120 8)) C iX8 (by decide) (mk_11 (by decide)) rfl 8 (by decide) L113 rfl dX8_clearText_6 ?_
  refine g_istore_n (lv' := [(1, .int ((st ω 120 0 0) 120 8)), (0, .ref (ad 120))]) C dX8_clearText_9 rfl (by decide) rfl ?_
  refine g_aload_n C dX8_clearText_10 rfl 1 rfl ?_
  refine g_iconst (v := 0) C dX8_clearText_11 (by decide) ?_
  refine g_put C iX8 tyX8 tyX8_ok nmX8 (by decide) (mk_11 (by decide)) rfl 8 (by decide) L113 rfl rfl rfl (Nat.le_of_ble_eq_true rfl) dX8_clearText_12 ?_
  refine gv_eqG (mkp_11_8 (by decide)) ?_
  refine g_iload_n C dX8_clearText_15 rfl 0 rfl ?_
  exact g_iret C hret hlk (e1.trans (pr1 (v := ((st ω 120 0 0) 120 8)) (w := (st (st ω 120 0 0) 120 8 0)) rfl)) (e2.trans (pr2 (v := ((st ω 120 0 0) 120 8)) (w := (st (st ω 120 0 0) 120 8 0)) rfl)) dX8_clearText_16
