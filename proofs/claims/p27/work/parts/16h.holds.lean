theorem hb1 {ω μ : Mem} {k : Nat} (h : LW ω μ) (hk : k < 4) : f_X7_burner k 1 ω = f_X8_get k 1 μ := h.rs.b1 hk
theorem hb2 {ω μ : Mem} {k : Nat} (h : LW ω μ) (hk : k < 4) : f_X7_burner k 2 ω = f_X8_get k 2 μ := by
  have e : f_X7_burner k 2 ω = f_X7_oneIf (bb (ω (5 + k) 2)) ω := rfl
  rw [e, one_bb]; exact h.rs.b2 hk
theorem hb4 {ω μ : Mem} {k : Nat} (h : LW ω μ) (hk : k < 4) : f_X7_burner k 4 ω = f_X8_get k 4 μ := by
  have e : f_X7_burner k 4 ω = f_X7_oneIf (bb (ω (5 + k) 4)) ω := rfl
  rw [e, one_bb]; exact h.rs.b4 hk
theorem hb5 {ω μ : Mem} {k : Nat} (h : LW ω μ) (hk : k < 4) : f_X7_burner k 5 ω = f_X8_get k 5 μ := h.rs.b5 hk
theorem hb7 {ω μ : Mem} {k : Nat} (h : LW ω μ) (hk : k < 4) : f_X7_burner k 7 ω = f_X8_get k 6 μ := by
  have e : f_X7_burner k 7 ω = f_X7_oneIf (bb (ω (5 + k) 6)) ω := rfl
  rw [e, one_bb]; exact h.rs.b6 hk
theorem op01 (k : Nat) (μ : Mem) : f_X8_isOpen k μ = 0 ∨ f_X8_isOpen k μ = 1 := (open01 k μ).imp id And.left
theorem hb6 {ω μ : Mem} {k : Nat} (h : LW ω μ) (hk : k < 4) : f_X7_burner k 6 ω = f_X8_isOpen k μ := by
  have e : f_X7_burner k 6 ω = f_X7_oneIf (f_X5_isOpen 1 (5 + k) ω) ω := rfl
  have e2 : f_X5_isOpen 1 (5 + k) ω = f_X8_isOpen k μ := open_eq (B := 1) h.rs hk (h.ib hk)
  rw [e, e2]
  unfold f_X7_oneIf
  rcases op01 k μ with q | q <;> rw [q] <;> rfl
theorem opA {k : Nat} {μ : Mem} (h : f_X8_get k 1 μ ≤ 0) : f_X8_isOpen k μ = 0 := by
  unfold f_X8_isOpen
  by_cases q : f_X8_get k 6 μ = 0
  · rw [if_pos q, if_pos h]
  · rw [if_neg q]
theorem opB {k : Nat} {μ : Mem} (h : ¬ f_X8_get k 6 μ = 0) : f_X8_isOpen k μ = 0 := by
  unfold f_X8_isOpen
  rw [if_neg h]
theorem opC {k : Nat} {μ : Mem} (h1 : ¬ f_X8_get k 1 μ ≤ 0) (h6 : f_X8_get k 6 μ = 0) (h2 : f_X8_get k 2 μ = 1) : f_X8_isOpen k μ = 1 := by
  unfold f_X8_isOpen
  rw [if_pos h6, if_neg h1, if_pos h2]
theorem opD {k : Nat} {μ : Mem} (h1 : ¬ f_X8_get k 1 μ ≤ 0) (h6 : f_X8_get k 6 μ = 0) (h2 : ¬ f_X8_get k 2 μ = 1) (h5 : f_X8_get k 5 μ < μ 121 0) : f_X8_isOpen k μ = 0 := by
  unfold f_X8_isOpen
  rw [if_pos h6, if_neg h1, if_neg h2, if_pos h5]
theorem opE {k : Nat} {μ : Mem} (h1 : ¬ f_X8_get k 1 μ ≤ 0) (h6 : f_X8_get k 6 μ = 0) (h2 : ¬ f_X8_get k 2 μ = 1) (h5 : ¬ f_X8_get k 5 μ < μ 121 0) : f_X8_isOpen k μ = 1 := by
  unfold f_X8_isOpen
  rw [if_pos h6, if_neg h1, if_neg h2, if_neg h5]
theorem w900 {ω μ : Mem} {k : Nat} (h : LW ω μ) (hk : k < 4) : ¬ f_X8_get k 5 μ < 0 ∧ ¬ 900 < f_X8_get k 5 μ := by
  have r : rg (f_X8_get k 5 μ) 900 := (h.ib hk).2.2.2
  refine ⟨rg_nn r (by decide), ?_⟩
  rw [r.1]
  exact nI_nlt (a := 900) r.2 (by decide)
theorem f_tap {ω μ : Mem} {k : Nat} (h : LW ω μ) (hk : k < 4) (ht : f_X8_get k 1 μ = 0) : ¬ f_X8_get k 4 μ = 1 := by
  rcases (h.ib hk).2.2.1 with q | q
  · have e : f_X8_get k 4 μ = 0 := q
    rw [e]; decide
  · exact absurd ht q
theorem hs0 {ω μ : Mem} (h : LW ω μ) : f_X7_setting 0 ω = μ 121 0 := by
  have e : f_X7_setting 0 ω = f_X4_valueOf 2 0 ω := rfl
  rw [e]; exact h.rs.v0
theorem vlv_sum (μ : Mem) : f_X8_openValves μ = ((((0 + f_X8_isOpen 0 μ) + f_X8_isOpen 1 μ) + f_X8_isOpen 2 μ) + f_X8_isOpen 3 μ) := by
  have st1 : ∀ (fu j : Nat) (v : Int32), j < 4 → f_X8_openValves_4 (fu + 1) v j μ = f_X8_openValves_4 fu (v + f_X8_isOpen j μ) (j + 1) μ := by
    intro fu j v hj
    conv => lhs; unfold f_X8_openValves_4
    rw [if_neg (by omega)]
    rcases op01 j μ with q | q
    · rw [if_pos q, q]
    · rw [if_neg (by rw [q]; decide), q]
  unfold f_X8_openValves
  rw [st1 4 0 0 (by decide), st1 3 1 _ (by decide), st1 2 2 _ (by decide), st1 1 3 _ (by decide)]
  rfl
theorem g56 {ω μ : Mem} (h : LW ω μ) (hj : JV (μ 121)) : ¬ μ 121 5 < 0 ∧ ¬ μ 121 6 < μ 121 5 := by
  obtain ⟨t, h1, h2⟩ := h.sm
  obtain ⟨-, -, ⟨-, r⟩, -⟩ := h2.2
  refine ⟨rg_nn r (by omega), ?_⟩
  rw [Int32.lt_iff_toInt_lt]
  have := hj.2.2
  omega
abbrev rm_L_holds : Room := { frames := 5, cells := 0, slots := 0, locals := 109 }
theorem md_L_holds : yL_holds.cls = RL ∧ yL_holds.cls ≠ "java/lang/invoke/MethodHandle" ∧ yL_holds.cls ≠ "java/lang/invoke/VarHandle" ∧ (parseMethodDescriptor yL_holds.desc).map (fun d => d.parameters.length) = some 1 := by decide +kernel
section
variable {p : Program} {l : Launch} {e : Env} {s : State} {m : MethodId} {args : Array Value} {below : List Frame} {meth : Method} {c : Code} {Q : State → Prop} {A : Nat → Prop} {sa : Nat → Nat} {D : va_G} {X : Nat → ClassId} {ad : Nat → Nat} {ω μ : Mem} {k : Nat} {f o t : Int32}
set_option maxRecDepth 100000 in
set_option maxHeartbeats 4000000 in
theorem h_four (C : GC p rm_L_holds s m args meth c cL_holds 8 wsL_holds RL sa D (tyX X) A) (h : LW ω μ) (hk : k < 4) (kk : GV p l e rm_L_holds s m args below meth c 0 0 Q D A 8 120 ad (mk X ad ω) [(4, .int (nI (k + 1))), (3, .int (t + (f_X8_get k 6 μ))), (2, .int (o + (f_X8_isOpen k μ))), (1, .int (f + (f_X8_get k 4 μ))), (0, .ref (ad 0))] 9 []) : GV p l e rm_L_holds s m args below meth c 0 0 Q D A 8 120 ad (mk X ad ω) [(6, .int (f_X8_isOpen k μ)), (4, .int (nI k)), (3, .int t), (2, .int o), (1, .int f), (0, .ref (ad 0))] 140 [] := by
  refine g_iload_n C dL_holds_140 rfl 4 rfl ?_
  refine g_aload_n C dL_holds_141 rfl 5 rfl ?_
  refine g_iload C dL_holds_142 1 rfl ?_
  refine g_iconst (v := 4) C dL_holds_144 (by decide) ?_
  refine g_callV (rest := [.int f]) (st1 := [.int (f_X8_get k 4 μ), .int f]) C (c_bur hk (hb4 h hk)) (cwV 2 C.hts gL_holds_X7_burner rfl rfl rfl md_X7_burner ⟨(Nat.le_of_ble_eq_true rfl), (Nat.le_of_ble_eq_true rfl)⟩) (by decide) (mk_0 (by decide)) rfl rfl rfl rfl rfl (Nat.le_of_ble_eq_true rfl) dL_holds_145 (Nat.le_of_ble_eq_true rfl) (Nat.le_of_ble_eq_true rfl) ?_
  refine g_iadd (v := (f + (f_X8_get k 4 μ))) C dL_holds_148 rfl ?_
  refine g_istore_n (lv' := [(1, .int (f + (f_X8_get k 4 μ))), (6, .int (f_X8_isOpen k μ)), (4, .int (nI k)), (3, .int t), (2, .int o), (0, .ref (ad 0))]) C dL_holds_149 rfl (by decide) rfl ?_
  refine g_iload_n C dL_holds_150 rfl 4 rfl ?_
  refine g_iload C dL_holds_151 1 rfl ?_
  refine g_if_eq (tgt := 160) C dL_holds_153 (by decide) (fun q => ?_) (fun q => ?_)
  · refine g_iconst (v := (f_X8_isOpen k μ)) C dL_holds_160 (by rw [q]; decide) ?_
    refine g_iadd (v := (o + (f_X8_isOpen k μ))) C dL_holds_161 rfl ?_
    refine g_istore_n (lv' := [(2, .int (o + (f_X8_isOpen k μ))), (1, .int (f + (f_X8_get k 4 μ))), (6, .int (f_X8_isOpen k μ)), (4, .int (nI k)), (3, .int t), (0, .ref (ad 0))]) C dL_holds_162 rfl (by decide) rfl ?_
    refine g_iload_n C dL_holds_163 rfl 4 rfl ?_
    refine g_aload_n C dL_holds_164 rfl 5 rfl ?_
    refine g_iload C dL_holds_165 3 rfl ?_
    refine g_bipush (v := 7) C dL_holds_167 (by decide) ?_
    refine g_callV (rest := [.int t]) (st1 := [.int (f_X8_get k 6 μ), .int t]) C (c_bur hk (hb7 h hk)) (cwV 2 C.hts gL_holds_X7_burner rfl rfl rfl md_X7_burner ⟨(Nat.le_of_ble_eq_true rfl), (Nat.le_of_ble_eq_true rfl)⟩) (by decide) (mk_0 (by decide)) rfl rfl rfl rfl rfl (Nat.le_of_ble_eq_true rfl) dL_holds_169 (Nat.le_of_ble_eq_true rfl) (Nat.le_of_ble_eq_true rfl) ?_
    refine g_iadd (v := (t + (f_X8_get k 6 μ))) C dL_holds_172 rfl ?_
    refine g_istore_n (lv' := [(3, .int (t + (f_X8_get k 6 μ))), (2, .int (o + (f_X8_isOpen k μ))), (1, .int (f + (f_X8_get k 4 μ))), (6, .int (f_X8_isOpen k μ)), (4, .int (nI k)), (0, .ref (ad 0))]) C dL_holds_173 rfl (by decide) rfl ?_
    refine g_iinc (k := 4) (v := (nI (k + 1))) (lv' := [(4, .int (nI (k + 1))), (3, .int (t + (f_X8_get k 6 μ))), (2, .int (o + (f_X8_isOpen k μ))), (1, .int (f + (f_X8_get k 4 μ))), (6, .int (f_X8_isOpen k μ)), (0, .ref (ad 0))]) C dL_holds_174 rfl (nI_1 k) (by decide) rfl ?_
    refine g_goto (tgt := 9) C dL_holds_177 (by decide) ?_
    refine gv_lv (lv' := [(4, .int (nI (k + 1))), (3, .int (t + (f_X8_get k 6 μ))), (2, .int (o + (f_X8_isOpen k μ))), (1, .int (f + (f_X8_get k 4 μ))), (0, .ref (ad 0))]) [0, 1, 2, 3, 5] rfl ?_
    exact kk
  · refine g_iconst (v := (f_X8_isOpen k μ)) C dL_holds_156 (by rw [(op01 k μ).resolve_left q]; decide) ?_
    refine g_goto (tgt := 161) C dL_holds_157 (by decide) ?_
    refine g_iadd (v := (o + (f_X8_isOpen k μ))) C dL_holds_161 rfl ?_
    refine g_istore_n (lv' := [(2, .int (o + (f_X8_isOpen k μ))), (1, .int (f + (f_X8_get k 4 μ))), (6, .int (f_X8_isOpen k μ)), (4, .int (nI k)), (3, .int t), (0, .ref (ad 0))]) C dL_holds_162 rfl (by decide) rfl ?_
    refine g_iload_n C dL_holds_163 rfl 4 rfl ?_
    refine g_aload_n C dL_holds_164 rfl 5 rfl ?_
    refine g_iload C dL_holds_165 3 rfl ?_
    refine g_bipush (v := 7) C dL_holds_167 (by decide) ?_
    refine g_callV (rest := [.int t]) (st1 := [.int (f_X8_get k 6 μ), .int t]) C (c_bur hk (hb7 h hk)) (cwV 2 C.hts gL_holds_X7_burner rfl rfl rfl md_X7_burner ⟨(Nat.le_of_ble_eq_true rfl), (Nat.le_of_ble_eq_true rfl)⟩) (by decide) (mk_0 (by decide)) rfl rfl rfl rfl rfl (Nat.le_of_ble_eq_true rfl) dL_holds_169 (Nat.le_of_ble_eq_true rfl) (Nat.le_of_ble_eq_true rfl) ?_
    refine g_iadd (v := (t + (f_X8_get k 6 μ))) C dL_holds_172 rfl ?_
    refine g_istore_n (lv' := [(3, .int (t + (f_X8_get k 6 μ))), (2, .int (o + (f_X8_isOpen k μ))), (1, .int (f + (f_X8_get k 4 μ))), (6, .int (f_X8_isOpen k μ)), (4, .int (nI k)), (0, .ref (ad 0))]) C dL_holds_173 rfl (by decide) rfl ?_
    refine g_iinc (k := 4) (v := (nI (k + 1))) (lv' := [(4, .int (nI (k + 1))), (3, .int (t + (f_X8_get k 6 μ))), (2, .int (o + (f_X8_isOpen k μ))), (1, .int (f + (f_X8_get k 4 μ))), (6, .int (f_X8_isOpen k μ)), (0, .ref (ad 0))]) C dL_holds_174 rfl (nI_1 k) (by decide) rfl ?_
    refine g_goto (tgt := 9) C dL_holds_177 (by decide) ?_
    refine gv_lv (lv' := [(4, .int (nI (k + 1))), (3, .int (t + (f_X8_get k 6 μ))), (2, .int (o + (f_X8_isOpen k μ))), (1, .int (f + (f_X8_get k 4 μ))), (0, .ref (ad 0))]) [0, 1, 2, 3, 5] rfl ?_
    exact kk
set_option maxRecDepth 100000 in
set_option maxHeartbeats 4000000 in
theorem h_three (C : GC p rm_L_holds s m args meth c cL_holds 8 wsL_holds RL sa D (tyX X) A) (h : LW ω μ) (hk : k < 4) (kk : GV p l e rm_L_holds s m args below meth c 0 0 Q D A 8 120 ad (mk X ad ω) [(4, .int (nI (k + 1))), (3, .int (t + (f_X8_get k 6 μ))), (2, .int (o + (f_X8_isOpen k μ))), (1, .int (f + (f_X8_get k 4 μ))), (0, .ref (ad 0))] 9 []) : GV p l e rm_L_holds s m args below meth c 0 0 Q D A 8 120 ad (mk X ad ω) [(6, .int (f_X8_isOpen k μ)), (5, .int (f_X8_get k 1 μ)), (4, .int (nI k)), (3, .int t), (2, .int o), (1, .int f), (0, .ref (ad 0))] 90 [.int (f_X8_isOpen k μ)] := by
  refine g_istore (lv' := [(7, .int (f_X8_isOpen k μ)), (6, .int (f_X8_isOpen k μ)), (5, .int (f_X8_get k 1 μ)), (4, .int (nI k)), (3, .int t), (2, .int o), (1, .int f), (0, .ref (ad 0))]) C dL_holds_90 (by decide) rfl ?_
  refine g_iload C dL_holds_92 1 rfl ?_
  refine g_iload C dL_holds_94 0 rfl ?_
  refine g_icmp_ne (tgt := 138) C dL_holds_96 (by decide) (fun q => absurd rfl q) (fun _ => ?_)
  refine g_aload_n C dL_holds_99 rfl 7 rfl ?_
  refine g_iload C dL_holds_100 3 rfl ?_
  refine g_iconst (v := 5) C dL_holds_102 (by decide) ?_
  refine g_callV (rest := []) (st1 := [.int (f_X8_get k 5 μ)]) C (c_bur hk (hb5 h hk)) (cwV 2 C.hts gL_holds_X7_burner rfl rfl rfl md_X7_burner ⟨(Nat.le_of_ble_eq_true rfl), (Nat.le_of_ble_eq_true rfl)⟩) (by decide) (mk_0 (by decide)) rfl rfl rfl rfl rfl (Nat.le_of_ble_eq_true rfl) dL_holds_103 (Nat.le_of_ble_eq_true rfl) (Nat.le_of_ble_eq_true rfl) ?_
  refine g_if_lt (tgt := 138) C dL_holds_106 (by decide) (fun q => absurd q (w900 h hk).1) (fun _ => ?_)
  refine g_aload_n C dL_holds_109 rfl 7 rfl ?_
  refine g_iload C dL_holds_110 3 rfl ?_
  refine g_iconst (v := 5) C dL_holds_112 (by decide) ?_
  refine g_callV (rest := []) (st1 := [.int (f_X8_get k 5 μ)]) C (c_bur hk (hb5 h hk)) (cwV 2 C.hts gL_holds_X7_burner rfl rfl rfl md_X7_burner ⟨(Nat.le_of_ble_eq_true rfl), (Nat.le_of_ble_eq_true rfl)⟩) (by decide) (mk_0 (by decide)) rfl rfl rfl rfl rfl (Nat.le_of_ble_eq_true rfl) dL_holds_113 (Nat.le_of_ble_eq_true rfl) (Nat.le_of_ble_eq_true rfl) ?_
  refine g_sipush (v := 900) C dL_holds_116 (by decide) ?_
  refine g_icmp_gt (tgt := 138) C dL_holds_119 (by decide) (fun q => absurd q (w900 h hk).2) (fun _ => ?_)
  refine g_iload C dL_holds_122 2 rfl ?_
  refine g_if_ne (tgt := 140) C dL_holds_124 (by decide) (fun q => ?_) (fun q => ?_)
  · refine gv_lv (lv' := [(6, .int (f_X8_isOpen k μ)), (4, .int (nI k)), (3, .int t), (2, .int o), (1, .int f), (0, .ref (ad 0))]) [1, 3, 4, 5, 6, 7] rfl ?_
    exact h_four C h hk kk
  · refine g_aload_n C dL_holds_127 rfl 7 rfl ?_
    refine g_iload C dL_holds_128 3 rfl ?_
    refine g_iconst (v := 4) C dL_holds_130 (by decide) ?_
    refine g_callV (rest := []) (st1 := [.int (f_X8_get k 4 μ)]) C (c_bur hk (hb4 h hk)) (cwV 2 C.hts gL_holds_X7_burner rfl rfl rfl md_X7_burner ⟨(Nat.le_of_ble_eq_true rfl), (Nat.le_of_ble_eq_true rfl)⟩) (by decide) (mk_0 (by decide)) rfl rfl rfl rfl rfl (Nat.le_of_ble_eq_true rfl) dL_holds_131 (Nat.le_of_ble_eq_true rfl) (Nat.le_of_ble_eq_true rfl) ?_
    refine g_iconst (v := 1) C dL_holds_134 (by decide) ?_
    refine g_icmp_ne (tgt := 140) C dL_holds_135 (by decide) (fun _ => ?_) (fun z => absurd z (f_tap h hk q))
    refine gv_lv (lv' := [(6, .int (f_X8_isOpen k μ)), (4, .int (nI k)), (3, .int t), (2, .int o), (1, .int f), (0, .ref (ad 0))]) [1, 3, 4, 5, 6, 7] rfl ?_
    exact h_four C h hk kk
set_option maxRecDepth 100000 in
set_option maxHeartbeats 4000000 in
theorem h_two (C : GC p rm_L_holds s m args meth c cL_holds 8 wsL_holds RL sa D (tyX X) A) (h : LW ω μ) (hk : k < 4) (kk : GV p l e rm_L_holds s m args below meth c 0 0 Q D A 8 120 ad (mk X ad ω) [(4, .int (nI (k + 1))), (3, .int (t + (f_X8_get k 6 μ))), (2, .int (o + (f_X8_isOpen k μ))), (1, .int (f + (f_X8_get k 4 μ))), (0, .ref (ad 0))] 9 []) : GV p l e rm_L_holds s m args below meth c 0 0 Q D A 8 120 ad (mk X ad ω) [(5, .int (f_X8_get k 1 μ)), (4, .int (nI k)), (3, .int t), (2, .int o), (1, .int f), (0, .ref (ad 0))] 41 [.int (f_X8_isOpen k μ)] := by
  refine g_istore (lv' := [(6, .int (f_X8_isOpen k μ)), (5, .int (f_X8_get k 1 μ)), (4, .int (nI k)), (3, .int t), (2, .int o), (1, .int f), (0, .ref (ad 0))]) C dL_holds_41 (by decide) rfl ?_
  refine g_iload C dL_holds_43 1 rfl ?_
  refine g_if_le (tgt := 89) C dL_holds_45 (by decide) (fun q1 => ?_) (fun q1 => ?_)
  · refine g_iconst (v := (f_X8_isOpen k μ)) C dL_holds_89 (by rw [opA q1]; decide) ?_
    exact h_three C h hk kk
  · refine g_aload_n C dL_holds_48 rfl 6 rfl ?_
    refine g_iload C dL_holds_49 2 rfl ?_
    refine g_bipush (v := 7) C dL_holds_51 (by decide) ?_
    refine g_callV (rest := []) (st1 := [.int (f_X8_get k 6 μ)]) C (c_bur hk (hb7 h hk)) (cwV 2 C.hts gL_holds_X7_burner rfl rfl rfl md_X7_burner ⟨(Nat.le_of_ble_eq_true rfl), (Nat.le_of_ble_eq_true rfl)⟩) (by decide) (mk_0 (by decide)) rfl rfl rfl rfl rfl (Nat.le_of_ble_eq_true rfl) dL_holds_53 (Nat.le_of_ble_eq_true rfl) (Nat.le_of_ble_eq_true rfl) ?_
    refine g_if_ne (tgt := 89) C dL_holds_56 (by decide) (fun q2 => ?_) (fun q2 => ?_)
    · refine g_iconst (v := (f_X8_isOpen k μ)) C dL_holds_89 (by rw [opB q2]; decide) ?_
      exact h_three C h hk kk
    · refine g_aload_n C dL_holds_59 rfl 6 rfl ?_
      refine g_iload C dL_holds_60 2 rfl ?_
      refine g_iconst (v := 2) C dL_holds_62 (by decide) ?_
      refine g_callV (rest := []) (st1 := [.int (f_X8_get k 2 μ)]) C (c_bur hk (hb2 h hk)) (cwV 2 C.hts gL_holds_X7_burner rfl rfl rfl md_X7_burner ⟨(Nat.le_of_ble_eq_true rfl), (Nat.le_of_ble_eq_true rfl)⟩) (by decide) (mk_0 (by decide)) rfl rfl rfl rfl rfl (Nat.le_of_ble_eq_true rfl) dL_holds_63 (Nat.le_of_ble_eq_true rfl) (Nat.le_of_ble_eq_true rfl) ?_
      refine g_iconst (v := 1) C dL_holds_66 (by decide) ?_
      refine g_icmp_eq (tgt := 85) C dL_holds_67 (by decide) (fun q3 => ?_) (fun q3 => ?_)
      · refine g_iconst (v := (f_X8_isOpen k μ)) C dL_holds_85 (by rw [opC q1 q2 q3]; decide) ?_
        refine g_goto (tgt := 90) C dL_holds_86 (by decide) ?_
        exact h_three C h hk kk
      · refine g_aload_n C dL_holds_70 rfl 6 rfl ?_
        refine g_iload C dL_holds_71 2 rfl ?_
        refine g_iconst (v := 5) C dL_holds_73 (by decide) ?_
        refine g_callV (rest := []) (st1 := [.int (f_X8_get k 5 μ)]) C (c_bur hk (hb5 h hk)) (cwV 2 C.hts gL_holds_X7_burner rfl rfl rfl md_X7_burner ⟨(Nat.le_of_ble_eq_true rfl), (Nat.le_of_ble_eq_true rfl)⟩) (by decide) (mk_0 (by decide)) rfl rfl rfl rfl rfl (Nat.le_of_ble_eq_true rfl) dL_holds_74 (Nat.le_of_ble_eq_true rfl) (Nat.le_of_ble_eq_true rfl) ?_
        refine g_aload_n C dL_holds_77 rfl 6 rfl ?_
        refine g_iconst (v := 0) C dL_holds_78 (by decide) ?_
        refine g_callV (rest := [.int (f_X8_get k 5 μ)]) (st1 := [.int (μ 121 0), .int (f_X8_get k 5 μ)]) C (c_stg (hs0 h)) (cwV 1 C.hts gL_holds_X7_setting rfl rfl rfl md_X7_setting ⟨(Nat.le_of_ble_eq_true rfl), (Nat.le_of_ble_eq_true rfl)⟩) (by decide) (mk_0 (by decide)) rfl rfl rfl rfl rfl (Nat.le_of_ble_eq_true rfl) dL_holds_79 (Nat.le_of_ble_eq_true rfl) (Nat.le_of_ble_eq_true rfl) ?_
        refine g_icmp_lt (tgt := 89) C dL_holds_82 (by decide) (fun q4 => ?_) (fun q4 => ?_)
        · refine g_iconst (v := (f_X8_isOpen k μ)) C dL_holds_89 (by rw [opD q1 q2 q3 q4]; decide) ?_
          exact h_three C h hk kk
        · refine g_iconst (v := (f_X8_isOpen k μ)) C dL_holds_85 (by rw [opE q1 q2 q3 q4]; decide) ?_
          refine g_goto (tgt := 90) C dL_holds_86 (by decide) ?_
          exact h_three C h hk kk
set_option maxRecDepth 100000 in
set_option maxHeartbeats 4000000 in
theorem h_one (C : GC p rm_L_holds s m args meth c cL_holds 8 wsL_holds RL sa D (tyX X) A) (h : LW ω μ) (hk : k < 4) (kk : GV p l e rm_L_holds s m args below meth c 0 0 Q D A 8 120 ad (mk X ad ω) [(4, .int (nI (k + 1))), (3, .int (t + (f_X8_get k 6 μ))), (2, .int (o + (f_X8_isOpen k μ))), (1, .int (f + (f_X8_get k 4 μ))), (0, .ref (ad 0))] 9 []) : GV p l e rm_L_holds s m args below meth c 0 0 Q D A 8 120 ad (mk X ad ω) [(4, .int (nI k)), (3, .int t), (2, .int o), (1, .int f), (0, .ref (ad 0))] 9 [] := by
  refine g_iload C dL_holds_9 0 rfl ?_
  refine g_iconst (v := (nI 4)) C dL_holds_11 (by decide) ?_
  refine g_icmp_ge (tgt := 180) C dL_holds_12 (by decide) (fun q => absurd q (nI_ge (a := k) (b := 4) hk (by decide))) (fun _ => ?_)
  refine g_aload_n C dL_holds_15 rfl 4 rfl ?_
  refine g_iload C dL_holds_16 0 rfl ?_
  refine g_iconst (v := 1) C dL_holds_18 (by decide) ?_
  refine g_callV (rest := []) (st1 := [.int (f_X8_get k 1 μ)]) C (c_bur hk (hb1 h hk)) (cwV 2 C.hts gL_holds_X7_burner rfl rfl rfl md_X7_burner ⟨(Nat.le_of_ble_eq_true rfl), (Nat.le_of_ble_eq_true rfl)⟩) (by decide) (mk_0 (by decide)) rfl rfl rfl rfl rfl (Nat.le_of_ble_eq_true rfl) dL_holds_19 (Nat.le_of_ble_eq_true rfl) (Nat.le_of_ble_eq_true rfl) ?_
  refine g_istore (lv' := [(5, .int (f_X8_get k 1 μ)), (4, .int (nI k)), (3, .int t), (2, .int o), (1, .int f), (0, .ref (ad 0))]) C dL_holds_22 (by decide) rfl ?_
  refine g_aload_n C dL_holds_24 rfl 5 rfl ?_
  refine g_iload C dL_holds_25 1 rfl ?_
  refine g_bipush (v := 6) C dL_holds_27 (by decide) ?_
  refine g_callV (rest := []) (st1 := [.int (f_X8_isOpen k μ)]) C (c_bur hk (hb6 h hk)) (cwV 2 C.hts gL_holds_X7_burner rfl rfl rfl md_X7_burner ⟨(Nat.le_of_ble_eq_true rfl), (Nat.le_of_ble_eq_true rfl)⟩) (by decide) (mk_0 (by decide)) rfl rfl rfl rfl rfl (Nat.le_of_ble_eq_true rfl) dL_holds_29 (Nat.le_of_ble_eq_true rfl) (Nat.le_of_ble_eq_true rfl) ?_
  refine g_iconst (v := 1) C dL_holds_32 (by decide) ?_
  refine g_icmp_ne (tgt := 40) C dL_holds_33 (by decide) (fun q => ?_) (fun q => ?_)
  · refine g_iconst (v := (f_X8_isOpen k μ)) C dL_holds_40 (by rw [(op01 k μ).resolve_right q]; decide) ?_
    exact h_two C h hk kk
  · refine g_iconst (v := (f_X8_isOpen k μ)) C dL_holds_36 (by rw [q]; decide) ?_
    refine g_goto (tgt := 41) C dL_holds_37 (by decide) ?_
    exact h_two C h hk kk
end
set_option maxRecDepth 100000 in
set_option maxHeartbeats 4000000 in
theorem c_L_holds {l_ : Launch} {sa : Nat → Nat} {D : va_G} {X : Nat → ClassId} {ad : Nat → Nat} (ω μ : Mem) (h : LW ω μ) (hj : JV (μ 121)) : CT l_ yL_holds wsL_holds rm_L_holds sa D (tyX X) 120 ad (mk X ad ω) [.ref (ad 0)] (some (.int 1)) (mk X ad ω) := by
  refine ct_of [(0, .ref (ad 0))] (by decide +kernel) rfl rfl (Nat.le_of_ble_eq_true rfl) rfl ?_
  intro p_ e_ s_ m_ args_ below_ meth_ c_ C hret hlk hin
  refine g_iconst (v := 0) C dL_holds_0 (by decide) ?_
  refine g_istore_n (lv' := [(1, .int 0), (0, .ref (ad 0))]) C dL_holds_1 rfl (by decide) rfl ?_
  refine g_iconst (v := 0) C dL_holds_2 (by decide) ?_
  refine g_istore_n (lv' := [(2, .int 0), (1, .int 0), (0, .ref (ad 0))]) C dL_holds_3 rfl (by decide) rfl ?_
  refine g_iconst (v := 0) C dL_holds_4 (by decide) ?_
  refine g_istore_n (lv' := [(3, .int 0), (2, .int 0), (1, .int 0), (0, .ref (ad 0))]) C dL_holds_5 rfl (by decide) rfl ?_
  refine g_iconst (v := (nI 0)) C dL_holds_6 (by decide) ?_
  refine g_istore (lv' := [(4, .int (nI 0)), (3, .int 0), (2, .int 0), (1, .int 0), (0, .ref (ad 0))]) C dL_holds_7 (by decide) rfl ?_
  refine gv_lv (lv' := [(4, .int (nI 0)), (3, .int 0), (2, .int 0), (1, .int 0), (0, .ref (ad 0))]) [0, 1, 2, 3, 4] rfl ?_
  refine h_one (k := 0) C h (by decide) ?_
  refine h_one (k := 1) C h (by decide) ?_
  refine h_one (k := 2) C h (by decide) ?_
  refine h_one (k := 3) C h (by decide) ?_
  refine g_iload C dL_holds_9 0 rfl ?_
  refine g_iconst (v := (nI 4)) C dL_holds_11 (by decide) ?_
  refine g_icmp_ge (tgt := 180) C dL_holds_12 (by decide) (fun _ => ?_) (fun q => absurd (nI_le (a := 4) (b := 4) (Nat.le_refl 4) (by decide)) q)
  refine g_iload_n C dL_holds_180 rfl 3 rfl ?_
  refine g_aload_n C dL_holds_181 rfl 4 rfl ?_
  refine g_bipush (v := 8) C dL_holds_182 (by decide) ?_
  refine g_callV (rest := [.int ((((0 + (f_X8_get 0 4 μ)) + (f_X8_get 1 4 μ)) + (f_X8_get 2 4 μ)) + (f_X8_get 3 4 μ))]) (st1 := [.int ((((0 + (f_X8_get 0 4 μ)) + (f_X8_get 1 4 μ)) + (f_X8_get 2 4 μ)) + (f_X8_get 3 4 μ)), .int ((((0 + (f_X8_get 0 4 μ)) + (f_X8_get 1 4 μ)) + (f_X8_get 2 4 μ)) + (f_X8_get 3 4 μ))]) C (c_cnt (w := 8) (fla_eq h)) (cwV 1 C.hts gL_holds_X7_count rfl rfl rfl md_X7_count ⟨(Nat.le_of_ble_eq_true rfl), (Nat.le_of_ble_eq_true rfl)⟩) (by decide) (mk_0 (by decide)) rfl rfl rfl rfl rfl (Nat.le_of_ble_eq_true rfl) dL_holds_184 (Nat.le_of_ble_eq_true rfl) (Nat.le_of_ble_eq_true rfl) ?_
  refine g_icmp_ne (tgt := 236) C dL_holds_187 (by decide) (fun q => absurd rfl q) (fun _ => ?_)
  refine g_iload_n C dL_holds_190 rfl 2 rfl ?_
  refine g_aload_n C dL_holds_191 rfl 4 rfl ?_
  refine g_bipush (v := 9) C dL_holds_192 (by decide) ?_
  refine g_callV (rest := [.int ((((0 + (f_X8_isOpen 0 μ)) + (f_X8_isOpen 1 μ)) + (f_X8_isOpen 2 μ)) + (f_X8_isOpen 3 μ))]) (st1 := [.int ((((0 + (f_X8_isOpen 0 μ)) + (f_X8_isOpen 1 μ)) + (f_X8_isOpen 2 μ)) + (f_X8_isOpen 3 μ)), .int ((((0 + (f_X8_isOpen 0 μ)) + (f_X8_isOpen 1 μ)) + (f_X8_isOpen 2 μ)) + (f_X8_isOpen 3 μ))]) C (c_cnt (w := 9) ((vlv_eq h).trans (vlv_sum μ))) (cwV 1 C.hts gL_holds_X7_count rfl rfl rfl md_X7_count ⟨(Nat.le_of_ble_eq_true rfl), (Nat.le_of_ble_eq_true rfl)⟩) (by decide) (mk_0 (by decide)) rfl rfl rfl rfl rfl (Nat.le_of_ble_eq_true rfl) dL_holds_194 (Nat.le_of_ble_eq_true rfl) (Nat.le_of_ble_eq_true rfl) ?_
  refine g_icmp_ne (tgt := 236) C dL_holds_197 (by decide) (fun q => absurd rfl q) (fun _ => ?_)
  refine g_iload_n C dL_holds_200 rfl 1 rfl ?_
  refine g_aload_n C dL_holds_201 rfl 4 rfl ?_
  refine g_bipush (v := 10) C dL_holds_202 (by decide) ?_
  refine g_callV (rest := [.int ((((0 + (f_X8_get 0 6 μ)) + (f_X8_get 1 6 μ)) + (f_X8_get 2 6 μ)) + (f_X8_get 3 6 μ))]) (st1 := [.int ((((0 + (f_X8_get 0 6 μ)) + (f_X8_get 1 6 μ)) + (f_X8_get 2 6 μ)) + (f_X8_get 3 6 μ)), .int ((((0 + (f_X8_get 0 6 μ)) + (f_X8_get 1 6 μ)) + (f_X8_get 2 6 μ)) + (f_X8_get 3 6 μ))]) C (c_cnt (w := 10) (loc_eq h)) (cwV 1 C.hts gL_holds_X7_count rfl rfl rfl md_X7_count ⟨(Nat.le_of_ble_eq_true rfl), (Nat.le_of_ble_eq_true rfl)⟩) (by decide) (mk_0 (by decide)) rfl rfl rfl rfl rfl (Nat.le_of_ble_eq_true rfl) dL_holds_204 (Nat.le_of_ble_eq_true rfl) (Nat.le_of_ble_eq_true rfl) ?_
  refine g_icmp_ne (tgt := 236) C dL_holds_207 (by decide) (fun q => absurd rfl q) (fun _ => ?_)
  refine g_aload_n C dL_holds_210 rfl 4 rfl ?_
  refine g_iconst (v := 1) C dL_holds_211 (by decide) ?_
  refine g_callV (rest := []) (st1 := [.int (μ 121 5)]) C (c_cnt (w := 1) h.rs.s5) (cwV 1 C.hts gL_holds_X7_count rfl rfl rfl md_X7_count ⟨(Nat.le_of_ble_eq_true rfl), (Nat.le_of_ble_eq_true rfl)⟩) (by decide) (mk_0 (by decide)) rfl rfl rfl rfl rfl (Nat.le_of_ble_eq_true rfl) dL_holds_212 (Nat.le_of_ble_eq_true rfl) (Nat.le_of_ble_eq_true rfl) ?_
  refine g_if_lt (tgt := 236) C dL_holds_215 (by decide) (fun q => absurd q (g56 h hj).1) (fun _ => ?_)
  refine g_aload_n C dL_holds_218 rfl 4 rfl ?_
  refine g_iconst (v := 1) C dL_holds_219 (by decide) ?_
  refine g_callV (rest := []) (st1 := [.int (μ 121 5)]) C (c_cnt (w := 1) h.rs.s5) (cwV 1 C.hts gL_holds_X7_count rfl rfl rfl md_X7_count ⟨(Nat.le_of_ble_eq_true rfl), (Nat.le_of_ble_eq_true rfl)⟩) (by decide) (mk_0 (by decide)) rfl rfl rfl rfl rfl (Nat.le_of_ble_eq_true rfl) dL_holds_220 (Nat.le_of_ble_eq_true rfl) (Nat.le_of_ble_eq_true rfl) ?_
  refine g_aload_n C dL_holds_223 rfl 4 rfl ?_
  refine g_bipush (v := 11) C dL_holds_224 (by decide) ?_
  refine g_callV (rest := [.int (μ 121 5)]) (st1 := [.int (μ 121 6), .int (μ 121 5)]) C (c_cnt (w := 11) h.rs.s6) (cwV 1 C.hts gL_holds_X7_count rfl rfl rfl md_X7_count ⟨(Nat.le_of_ble_eq_true rfl), (Nat.le_of_ble_eq_true rfl)⟩) (by decide) (mk_0 (by decide)) rfl rfl rfl rfl rfl (Nat.le_of_ble_eq_true rfl) dL_holds_226 (Nat.le_of_ble_eq_true rfl) (Nat.le_of_ble_eq_true rfl) ?_
  refine g_icmp_gt (tgt := 236) C dL_holds_229 (by decide) (fun q => absurd q (g56 h hj).2) (fun _ => ?_)
  refine g_iconst (v := 1) C dL_holds_232 (by decide) ?_
  refine g_goto (tgt := 237) C dL_holds_233 (by decide) ?_
  exact g_zret C hret hlk (nar_b (by decide)).1 rfl rfl dL_holds_237
