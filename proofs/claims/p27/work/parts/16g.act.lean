abbrev rm_L_act : Room := { frames := 7, cells := 0, slots := 0, locals := 154 }
theorem md_L_act : yL_act.cls = RL ∧ yL_act.cls ≠ "java/lang/invoke/MethodHandle" ∧ yL_act.cls ≠ "java/lang/invoke/VarHandle" ∧ (parseMethodDescriptor yL_act.desc).map (fun d => d.parameters.length) = some 3 := by decide +kernel
section
variable {p : Program} {l : Launch} {e : Env} {s : State} {m : MethodId} {args : Array Value} {below : List Frame} {meth : Method} {c : Code} {sa : Nat → Nat} {D : va_G} {X : Nat → ClassId} {ad : Nat → Nat} {ω : Mem} {v w x : Int32}
set_option maxRecDepth 100000 in
set_option maxHeartbeats 4000000 in
theorem act_0 (C : GC p rm_L_act s m args meth c cL_act 4 wsL_act RL sa D (tyX X) (va_A (gw 120 ad (mk X ad ω)) s.heap.size)) (hret : meth.sig.returnType = some .int) (hlk : meth.locks = false) (hst : hstP ω) : GV p l e rm_L_act s m args below meth c 0 0 (CQ below args s D 120 ad (mk X ad ω) (some (.int (f_X7_set (lowf (v >>> ((4 : Int32) &&& 31)) 4) (lowf w (mSet w)) ω).1)) (mk X ad (f_X7_set (lowf (v >>> ((4 : Int32) &&& 31)) 4) (lowf w (mSet w)) ω).2)) D (va_A (gw 120 ad (mk X ad ω)) s.heap.size) 4 120 ad (mk X ad ω) [(3, .int x), (2, .int w), (1, .int v), (0, .ref (ad 0))] 76 [] := by
  refine g_aload_n C dL_act_76 rfl 3 rfl ?_
  refine g_iload_n C dL_act_77 rfl 2 rfl ?_
  refine g_iconst (v := 4) C dL_act_78 (by decide) ?_
  refine g_ishr (v := (v >>> ((4 : Int32) &&& 31))) C dL_act_79 rfl ?_
  refine g_iconst (v := 4) C dL_act_80 (by decide) ?_
  refine g_callS (rest := [.ref (ad 0)]) (st1 := [.int (lowf (v >>> ((4 : Int32) &&& 31)) 4), .ref (ad 0)]) C (c_L_low (v >>> ((4 : Int32) &&& 31)) 4 (by decide) (mk X ad ω)) (va_cwS 2 C.hts gL_act_L_low rfl rfl rfl md_L_low.2 ⟨(Nat.le_of_ble_eq_true rfl), (Nat.le_of_ble_eq_true rfl)⟩) rfl rfl rfl (Nat.le_of_ble_eq_true rfl) dL_act_81 (Nat.le_of_ble_eq_true rfl) (Nat.le_of_ble_eq_true rfl) ?_
  refine g_iload_n C dL_act_84 rfl 1 rfl ?_
  refine g_iload_n C dL_act_85 rfl 1 rfl ?_
  refine g_bipush (v := 12) C dL_act_86 (by decide) ?_
  refine g_ishr (v := (w >>> ((12 : Int32) &&& 31))) C dL_act_88 rfl ?_
  refine g_iconst (v := 1) C dL_act_89 (by decide) ?_
  refine g_iand (v := ((w >>> ((12 : Int32) &&& 31)) &&& 1)) C dL_act_90 rfl ?_
  refine g_if_ne (tgt := 99) C dL_act_91 (by decide) (fun h => ?_) (fun h => ?_)
  · refine g_sipush (v := (mSet w)) C dL_act_99 (by unfold mSet; rw [if_neg h]; decide) ?_
    refine g_callS (rest := [.int (lowf (v >>> ((4 : Int32) &&& 31)) 4), .ref (ad 0)]) (st1 := [.int (lowf w (mSet w)), .int (lowf (v >>> ((4 : Int32) &&& 31)) 4), .ref (ad 0)]) C (c_L_low w (mSet w) (mSet_ne w) (mk X ad ω)) (va_cwS 2 C.hts gL_act_L_low rfl rfl rfl md_L_low.2 ⟨(Nat.le_of_ble_eq_true rfl), (Nat.le_of_ble_eq_true rfl)⟩) rfl rfl rfl (Nat.le_of_ble_eq_true rfl) dL_act_102 (Nat.le_of_ble_eq_true rfl) (Nat.le_of_ble_eq_true rfl) ?_
    refine g_callV (rest := []) (st1 := [.int (f_X7_set (lowf (v >>> ((4 : Int32) &&& 31)) 4) (lowf w (mSet w)) ω).1]) C (c_X7_set (lowf (v >>> ((4 : Int32) &&& 31)) 4) (lowf w (mSet w)) ω hst) (cwV 2 C.hts gL_act_X7_set rfl rfl rfl md_X7_set ⟨(Nat.le_of_ble_eq_true rfl), (Nat.le_of_ble_eq_true rfl)⟩) (by decide) (mk_0 (by decide)) rfl rfl rfl rfl rfl (Nat.le_of_ble_eq_true rfl) dL_act_105 (Nat.le_of_ble_eq_true rfl) (Nat.le_of_ble_eq_true rfl) ?_
    exact g_iret C hret hlk rfl rfl dL_act_108
  · refine g_bipush (v := (mSet w)) C dL_act_94 (by unfold mSet; rw [if_pos h]; decide) ?_
    refine g_goto (tgt := 102) C dL_act_96 (by decide) ?_
    refine g_callS (rest := [.int (lowf (v >>> ((4 : Int32) &&& 31)) 4), .ref (ad 0)]) (st1 := [.int (lowf w (mSet w)), .int (lowf (v >>> ((4 : Int32) &&& 31)) 4), .ref (ad 0)]) C (c_L_low w (mSet w) (mSet_ne w) (mk X ad ω)) (va_cwS 2 C.hts gL_act_L_low rfl rfl rfl md_L_low.2 ⟨(Nat.le_of_ble_eq_true rfl), (Nat.le_of_ble_eq_true rfl)⟩) rfl rfl rfl (Nat.le_of_ble_eq_true rfl) dL_act_102 (Nat.le_of_ble_eq_true rfl) (Nat.le_of_ble_eq_true rfl) ?_
    refine g_callV (rest := []) (st1 := [.int (f_X7_set (lowf (v >>> ((4 : Int32) &&& 31)) 4) (lowf w (mSet w)) ω).1]) C (c_X7_set (lowf (v >>> ((4 : Int32) &&& 31)) 4) (lowf w (mSet w)) ω hst) (cwV 2 C.hts gL_act_X7_set rfl rfl rfl md_X7_set ⟨(Nat.le_of_ble_eq_true rfl), (Nat.le_of_ble_eq_true rfl)⟩) (by decide) (mk_0 (by decide)) rfl rfl rfl rfl rfl (Nat.le_of_ble_eq_true rfl) dL_act_105 (Nat.le_of_ble_eq_true rfl) (Nat.le_of_ble_eq_true rfl) ?_
    exact g_iret C hret hlk rfl rfl dL_act_108
set_option maxRecDepth 100000 in
set_option maxHeartbeats 4000000 in
theorem act_1 (C : GC p rm_L_act s m args meth c cL_act 4 wsL_act RL sa D (tyX X) (va_A (gw 120 ad (mk X ad ω)) s.heap.size)) (hret : meth.sig.returnType = some .int) (hlk : meth.locks = false) (hst : hstP ω) : GV p l e rm_L_act s m args below meth c 0 0 (CQ below args s D 120 ad (mk X ad ω) (some (.int (burn x (fun k => f_X7_setKind k (lowf w 3) ω) ω).1)) (mk X ad (burn x (fun k => f_X7_setKind k (lowf w 3) ω) ω).2)) D (va_A (gw 120 ad (mk X ad ω)) s.heap.size) 4 120 ad (mk X ad ω) [(3, .int x), (2, .int w), (1, .int v), (0, .ref (ad 0))] 109 [] := by
  by_cases hb : x < 0 ∨ 4 ≤ x
  · have eb : (burn x (fun k => f_X7_setKind k (lowf w 3) ω) ω) = (-1, ω) := if_pos hb
    rw [eb]
    refine g_aload_n C dL_act_109 rfl 3 rfl ?_
    refine g_iload_n C dL_act_110 rfl 0 rfl ?_
    refine g_iload_n C dL_act_111 rfl 1 rfl ?_
    refine g_iconst (v := 3) C dL_act_112 (by decide) ?_
    refine g_callS (rest := [.int x, .ref (ad 0)]) (st1 := [.int (lowf w 3), .int x, .ref (ad 0)]) C (c_L_low w 3 (by decide) (mk X ad ω)) (va_cwS 2 C.hts gL_act_L_low rfl rfl rfl md_L_low.2 ⟨(Nat.le_of_ble_eq_true rfl), (Nat.le_of_ble_eq_true rfl)⟩) rfl rfl rfl (Nat.le_of_ble_eq_true rfl) dL_act_113 (Nat.le_of_ble_eq_true rfl) (Nat.le_of_ble_eq_true rfl) ?_
    refine g_callV (rest := []) (st1 := [.int (f_X7_setKindB x (lowf w 3) ω)]) C (c_X7_setKindB x (lowf w 3) hb ω) (cwV 2 C.hts gL_act_X7_setKind rfl rfl rfl md_X7_setKind ⟨(Nat.le_of_ble_eq_true rfl), (Nat.le_of_ble_eq_true rfl)⟩) (by decide) (mk_0 (by decide)) rfl rfl rfl rfl rfl (Nat.le_of_ble_eq_true rfl) dL_act_116 (Nat.le_of_ble_eq_true rfl) (Nat.le_of_ble_eq_true rfl) ?_
    exact g_iret C hret hlk rfl rfl dL_act_119
  · have eb : (burn x (fun k => f_X7_setKind k (lowf w 3) ω) ω) = (fun k => f_X7_setKind k (lowf w 3) ω) x.toNatClampNeg := if_neg hb
    rw [eb]
    obtain ⟨hk, e1⟩ := burn_4 hb
    generalize x.toNatClampNeg = k at hk e1 ⊢
    subst e1
    refine g_aload_n C dL_act_109 rfl 3 rfl ?_
    refine g_iload_n C dL_act_110 rfl 0 rfl ?_
    refine g_iload_n C dL_act_111 rfl 1 rfl ?_
    refine g_iconst (v := 3) C dL_act_112 (by decide) ?_
    refine g_callS (rest := [.int (nI k), .ref (ad 0)]) (st1 := [.int (lowf w 3), .int (nI k), .ref (ad 0)]) C (c_L_low w 3 (by decide) (mk X ad ω)) (va_cwS 2 C.hts gL_act_L_low rfl rfl rfl md_L_low.2 ⟨(Nat.le_of_ble_eq_true rfl), (Nat.le_of_ble_eq_true rfl)⟩) rfl rfl rfl (Nat.le_of_ble_eq_true rfl) dL_act_113 (Nat.le_of_ble_eq_true rfl) (Nat.le_of_ble_eq_true rfl) ?_
    refine g_callV (rest := []) (st1 := [.int (f_X7_setKind k (lowf w 3) ω).1]) C (c_X7_setKind k (lowf w 3) hk ω hst) (cwV 2 C.hts gL_act_X7_setKind rfl rfl rfl md_X7_setKind ⟨(Nat.le_of_ble_eq_true rfl), (Nat.le_of_ble_eq_true rfl)⟩) (by decide) (mk_0 (by decide)) rfl rfl rfl rfl rfl (Nat.le_of_ble_eq_true rfl) dL_act_116 (Nat.le_of_ble_eq_true rfl) (Nat.le_of_ble_eq_true rfl) ?_
    exact g_iret C hret hlk rfl rfl dL_act_119
set_option maxRecDepth 100000 in
set_option maxHeartbeats 4000000 in
theorem act_2 (C : GC p rm_L_act s m args meth c cL_act 4 wsL_act RL sa D (tyX X) (va_A (gw 120 ad (mk X ad ω)) s.heap.size)) (hret : meth.sig.returnType = some .int) (hlk : meth.locks = false) (hst : hstP ω) : GV p l e rm_L_act s m args below meth c 0 0 (CQ below args s D 120 ad (mk X ad ω) (some (.int (f_X7_plan (f_X7_count 0 ω + lowf w 20) (lowf (w >>> ((5 : Int32) &&& 31)) 11) ω).1)) (mk X ad (f_X7_plan (f_X7_count 0 ω + lowf w 20) (lowf (w >>> ((5 : Int32) &&& 31)) 11) ω).2)) D (va_A (gw 120 ad (mk X ad ω)) s.heap.size) 4 120 ad (mk X ad ω) [(3, .int x), (2, .int w), (1, .int v), (0, .ref (ad 0))] 120 [] := by
  refine g_aload_n C dL_act_120 rfl 3 rfl ?_
  refine g_aload_n C dL_act_121 rfl 3 rfl ?_
  refine g_iconst (v := 0) C dL_act_122 (by decide) ?_
  refine g_callV (rest := [.ref (ad 0)]) (st1 := [.int (f_X7_count 0 ω), .ref (ad 0)]) C (c_X7_count 0 ω) (cwV 1 C.hts gL_act_X7_count rfl rfl rfl md_X7_count ⟨(Nat.le_of_ble_eq_true rfl), (Nat.le_of_ble_eq_true rfl)⟩) (by decide) (mk_0 (by decide)) rfl rfl rfl rfl rfl (Nat.le_of_ble_eq_true rfl) dL_act_123 (Nat.le_of_ble_eq_true rfl) (Nat.le_of_ble_eq_true rfl) ?_
  refine g_iload_n C dL_act_126 rfl 1 rfl ?_
  refine g_bipush (v := 20) C dL_act_127 (by decide) ?_
  refine g_callS (rest := [.int (f_X7_count 0 ω), .ref (ad 0)]) (st1 := [.int (lowf w 20), .int (f_X7_count 0 ω), .ref (ad 0)]) C (c_L_low w 20 (by decide) (mk X ad ω)) (va_cwS 2 C.hts gL_act_L_low rfl rfl rfl md_L_low.2 ⟨(Nat.le_of_ble_eq_true rfl), (Nat.le_of_ble_eq_true rfl)⟩) rfl rfl rfl (Nat.le_of_ble_eq_true rfl) dL_act_129 (Nat.le_of_ble_eq_true rfl) (Nat.le_of_ble_eq_true rfl) ?_
  refine g_iadd (v := ((f_X7_count 0 ω) + (lowf w 20))) C dL_act_132 rfl ?_
  refine g_iload_n C dL_act_133 rfl 1 rfl ?_
  refine g_iconst (v := 5) C dL_act_134 (by decide) ?_
  refine g_ishr (v := (w >>> ((5 : Int32) &&& 31))) C dL_act_135 rfl ?_
  refine g_bipush (v := 11) C dL_act_136 (by decide) ?_
  refine g_callS (rest := [.int ((f_X7_count 0 ω) + (lowf w 20)), .ref (ad 0)]) (st1 := [.int (lowf (w >>> ((5 : Int32) &&& 31)) 11), .int ((f_X7_count 0 ω) + (lowf w 20)), .ref (ad 0)]) C (c_L_low (w >>> ((5 : Int32) &&& 31)) 11 (by decide) (mk X ad ω)) (va_cwS 2 C.hts gL_act_L_low rfl rfl rfl md_L_low.2 ⟨(Nat.le_of_ble_eq_true rfl), (Nat.le_of_ble_eq_true rfl)⟩) rfl rfl rfl (Nat.le_of_ble_eq_true rfl) dL_act_138 (Nat.le_of_ble_eq_true rfl) (Nat.le_of_ble_eq_true rfl) ?_
  refine g_callV (rest := []) (st1 := [.int (f_X7_plan (f_X7_count 0 ω + lowf w 20) (lowf (w >>> ((5 : Int32) &&& 31)) 11) ω).1]) C (c_X7_plan (f_X7_count 0 ω + lowf w 20) (lowf (w >>> ((5 : Int32) &&& 31)) 11) ω hst) (cwV 2 C.hts gL_act_X7_plan rfl rfl rfl md_X7_plan ⟨(Nat.le_of_ble_eq_true rfl), (Nat.le_of_ble_eq_true rfl)⟩) (by decide) (mk_0 (by decide)) rfl rfl rfl rfl rfl (Nat.le_of_ble_eq_true rfl) dL_act_141 (Nat.le_of_ble_eq_true rfl) (Nat.le_of_ble_eq_true rfl) ?_
  exact g_iret C hret hlk rfl rfl dL_act_144
set_option maxRecDepth 100000 in
set_option maxHeartbeats 4000000 in
theorem act_3 (C : GC p rm_L_act s m args meth c cL_act 4 wsL_act RL sa D (tyX X) (va_A (gw 120 ad (mk X ad ω)) s.heap.size)) (hret : meth.sig.returnType = some .int) (hlk : meth.locks = false) (hst : hstP ω) : GV p l e rm_L_act s m args below meth c 0 0 (CQ below args s D 120 ad (mk X ad ω) (some (.int (burn x (fun k => f_X7_turn k (lowf w 3) ω) ω).1)) (mk X ad (burn x (fun k => f_X7_turn k (lowf w 3) ω) ω).2)) D (va_A (gw 120 ad (mk X ad ω)) s.heap.size) 4 120 ad (mk X ad ω) [(3, .int x), (2, .int w), (1, .int v), (0, .ref (ad 0))] 145 [] := by
  by_cases hb : x < 0 ∨ 4 ≤ x
  · have eb : (burn x (fun k => f_X7_turn k (lowf w 3) ω) ω) = (-1, ω) := if_pos hb
    rw [eb]
    refine g_aload_n C dL_act_145 rfl 3 rfl ?_
    refine g_iload_n C dL_act_146 rfl 0 rfl ?_
    refine g_iload_n C dL_act_147 rfl 1 rfl ?_
    refine g_iconst (v := 3) C dL_act_148 (by decide) ?_
    refine g_callS (rest := [.int x, .ref (ad 0)]) (st1 := [.int (lowf w 3), .int x, .ref (ad 0)]) C (c_L_low w 3 (by decide) (mk X ad ω)) (va_cwS 2 C.hts gL_act_L_low rfl rfl rfl md_L_low.2 ⟨(Nat.le_of_ble_eq_true rfl), (Nat.le_of_ble_eq_true rfl)⟩) rfl rfl rfl (Nat.le_of_ble_eq_true rfl) dL_act_149 (Nat.le_of_ble_eq_true rfl) (Nat.le_of_ble_eq_true rfl) ?_
    refine g_callV (rest := []) (st1 := [.int (f_X7_turnB x (lowf w 3) ω)]) C (c_X7_turnB x (lowf w 3) hb ω) (cwV 2 C.hts gL_act_X7_turn rfl rfl rfl md_X7_turn ⟨(Nat.le_of_ble_eq_true rfl), (Nat.le_of_ble_eq_true rfl)⟩) (by decide) (mk_0 (by decide)) rfl rfl rfl rfl rfl (Nat.le_of_ble_eq_true rfl) dL_act_152 (Nat.le_of_ble_eq_true rfl) (Nat.le_of_ble_eq_true rfl) ?_
    exact g_iret C hret hlk rfl rfl dL_act_155
  · have eb : (burn x (fun k => f_X7_turn k (lowf w 3) ω) ω) = (fun k => f_X7_turn k (lowf w 3) ω) x.toNatClampNeg := if_neg hb
    rw [eb]
    obtain ⟨hk, e1⟩ := burn_4 hb
    generalize x.toNatClampNeg = k at hk e1 ⊢
    subst e1
    refine g_aload_n C dL_act_145 rfl 3 rfl ?_
    refine g_iload_n C dL_act_146 rfl 0 rfl ?_
    refine g_iload_n C dL_act_147 rfl 1 rfl ?_
    refine g_iconst (v := 3) C dL_act_148 (by decide) ?_
    refine g_callS (rest := [.int (nI k), .ref (ad 0)]) (st1 := [.int (lowf w 3), .int (nI k), .ref (ad 0)]) C (c_L_low w 3 (by decide) (mk X ad ω)) (va_cwS 2 C.hts gL_act_L_low rfl rfl rfl md_L_low.2 ⟨(Nat.le_of_ble_eq_true rfl), (Nat.le_of_ble_eq_true rfl)⟩) rfl rfl rfl (Nat.le_of_ble_eq_true rfl) dL_act_149 (Nat.le_of_ble_eq_true rfl) (Nat.le_of_ble_eq_true rfl) ?_
    refine g_callV (rest := []) (st1 := [.int (f_X7_turn k (lowf w 3) ω).1]) C (c_X7_turn k (lowf w 3) hk ω hst) (cwV 2 C.hts gL_act_X7_turn rfl rfl rfl md_X7_turn ⟨(Nat.le_of_ble_eq_true rfl), (Nat.le_of_ble_eq_true rfl)⟩) (by decide) (mk_0 (by decide)) rfl rfl rfl rfl rfl (Nat.le_of_ble_eq_true rfl) dL_act_152 (Nat.le_of_ble_eq_true rfl) (Nat.le_of_ble_eq_true rfl) ?_
    exact g_iret C hret hlk rfl rfl dL_act_155
set_option maxRecDepth 100000 in
set_option maxHeartbeats 4000000 in
theorem act_5 (C : GC p rm_L_act s m args meth c cL_act 4 wsL_act RL sa D (tyX X) (va_A (gw 120 ad (mk X ad ω)) s.heap.size)) (hret : meth.sig.returnType = some .int) (hlk : meth.locks = false) (hst : hstP ω) : GV p l e rm_L_act s m args below meth c 0 0 (CQ below args s D 120 ad (mk X ad ω) (some (.int (burn x (fun k => f_X7_press k (par1 w) ω) ω).1)) (mk X ad (burn x (fun k => f_X7_press k (par1 w) ω) ω).2)) D (va_A (gw 120 ad (mk X ad ω)) s.heap.size) 4 120 ad (mk X ad ω) [(3, .int x), (2, .int w), (1, .int v), (0, .ref (ad 0))] 156 [] := by
  by_cases hb : x < 0 ∨ 4 ≤ x
  · have eb : (burn x (fun k => f_X7_press k (par1 w) ω) ω) = (-1, ω) := if_pos hb
    rw [eb]
    refine g_aload_n C dL_act_156 rfl 3 rfl ?_
    refine g_iload_n C dL_act_157 rfl 0 rfl ?_
    refine g_iload_n C dL_act_158 rfl 1 rfl ?_
    refine g_iconst (v := 1) C dL_act_159 (by decide) ?_
    refine g_iand (v := (w &&& 1)) C dL_act_160 rfl ?_
    refine g_if_ne (tgt := 168) C dL_act_161 (by decide) (fun h => ?_) (fun h => ?_)
    · refine g_iconst (v := (par1 w)) C dL_act_168 (by unfold par1; rw [if_neg h]; decide) ?_
      refine g_callV (rest := []) (st1 := [.int (f_X7_pressB x (par1 w) ω)]) C (c_X7_pressB x (par1 w) (par1_bb w) hb ω) (cwV 2 C.hts gL_act_X7_press rfl rfl rfl md_X7_press ⟨(Nat.le_of_ble_eq_true rfl), (Nat.le_of_ble_eq_true rfl)⟩) (by decide) (mk_0 (by decide)) rfl rfl rfl rfl rfl (Nat.le_of_ble_eq_true rfl) dL_act_169 (Nat.le_of_ble_eq_true rfl) (Nat.le_of_ble_eq_true rfl) ?_
      exact g_iret C hret hlk rfl rfl dL_act_172
    · refine g_iconst (v := (par1 w)) C dL_act_164 (by unfold par1; rw [if_pos h]; decide) ?_
      refine g_goto (tgt := 169) C dL_act_165 (by decide) ?_
      refine g_callV (rest := []) (st1 := [.int (f_X7_pressB x (par1 w) ω)]) C (c_X7_pressB x (par1 w) (par1_bb w) hb ω) (cwV 2 C.hts gL_act_X7_press rfl rfl rfl md_X7_press ⟨(Nat.le_of_ble_eq_true rfl), (Nat.le_of_ble_eq_true rfl)⟩) (by decide) (mk_0 (by decide)) rfl rfl rfl rfl rfl (Nat.le_of_ble_eq_true rfl) dL_act_169 (Nat.le_of_ble_eq_true rfl) (Nat.le_of_ble_eq_true rfl) ?_
      exact g_iret C hret hlk rfl rfl dL_act_172
  · have eb : (burn x (fun k => f_X7_press k (par1 w) ω) ω) = (fun k => f_X7_press k (par1 w) ω) x.toNatClampNeg := if_neg hb
    rw [eb]
    obtain ⟨hk, e1⟩ := burn_4 hb
    generalize x.toNatClampNeg = k at hk e1 ⊢
    subst e1
    refine g_aload_n C dL_act_156 rfl 3 rfl ?_
    refine g_iload_n C dL_act_157 rfl 0 rfl ?_
    refine g_iload_n C dL_act_158 rfl 1 rfl ?_
    refine g_iconst (v := 1) C dL_act_159 (by decide) ?_
    refine g_iand (v := (w &&& 1)) C dL_act_160 rfl ?_
    refine g_if_ne (tgt := 168) C dL_act_161 (by decide) (fun h => ?_) (fun h => ?_)
    · refine g_iconst (v := (par1 w)) C dL_act_168 (by unfold par1; rw [if_neg h]; decide) ?_
      refine g_callV (rest := []) (st1 := [.int (f_X7_press k (par1 w) ω).1]) C (c_X7_press k (par1 w) (par1_bb w) hk ω hst) (cwV 2 C.hts gL_act_X7_press rfl rfl rfl md_X7_press ⟨(Nat.le_of_ble_eq_true rfl), (Nat.le_of_ble_eq_true rfl)⟩) (by decide) (mk_0 (by decide)) rfl rfl rfl rfl rfl (Nat.le_of_ble_eq_true rfl) dL_act_169 (Nat.le_of_ble_eq_true rfl) (Nat.le_of_ble_eq_true rfl) ?_
      exact g_iret C hret hlk rfl rfl dL_act_172
    · refine g_iconst (v := (par1 w)) C dL_act_164 (by unfold par1; rw [if_pos h]; decide) ?_
      refine g_goto (tgt := 169) C dL_act_165 (by decide) ?_
      refine g_callV (rest := []) (st1 := [.int (f_X7_press k (par1 w) ω).1]) C (c_X7_press k (par1 w) (par1_bb w) hk ω hst) (cwV 2 C.hts gL_act_X7_press rfl rfl rfl md_X7_press ⟨(Nat.le_of_ble_eq_true rfl), (Nat.le_of_ble_eq_true rfl)⟩) (by decide) (mk_0 (by decide)) rfl rfl rfl rfl rfl (Nat.le_of_ble_eq_true rfl) dL_act_169 (Nat.le_of_ble_eq_true rfl) (Nat.le_of_ble_eq_true rfl) ?_
      exact g_iret C hret hlk rfl rfl dL_act_172
set_option maxRecDepth 100000 in
set_option maxHeartbeats 4000000 in
theorem act_7 (C : GC p rm_L_act s m args meth c cL_act 4 wsL_act RL sa D (tyX X) (va_A (gw 120 ad (mk X ad ω)) s.heap.size)) (hret : meth.sig.returnType = some .int) (hlk : meth.locks = false) (hst : hstP ω) : GV p l e rm_L_act s m args below meth c 0 0 (CQ below args s D 120 ad (mk X ad ω) (some (.int (burn x (fun k => f_X7_igniter k (par1 w) ω) ω).1)) (mk X ad (burn x (fun k => f_X7_igniter k (par1 w) ω) ω).2)) D (va_A (gw 120 ad (mk X ad ω)) s.heap.size) 4 120 ad (mk X ad ω) [(3, .int x), (2, .int w), (1, .int v), (0, .ref (ad 0))] 173 [] := by
  by_cases hb : x < 0 ∨ 4 ≤ x
  · have eb : (burn x (fun k => f_X7_igniter k (par1 w) ω) ω) = (-1, ω) := if_pos hb
    rw [eb]
    refine g_aload_n C dL_act_173 rfl 3 rfl ?_
    refine g_iload_n C dL_act_174 rfl 0 rfl ?_
    refine g_iload_n C dL_act_175 rfl 1 rfl ?_
    refine g_iconst (v := 1) C dL_act_176 (by decide) ?_
    refine g_iand (v := (w &&& 1)) C dL_act_177 rfl ?_
    refine g_if_ne (tgt := 185) C dL_act_178 (by decide) (fun h => ?_) (fun h => ?_)
    · refine g_iconst (v := (par1 w)) C dL_act_185 (by unfold par1; rw [if_neg h]; decide) ?_
      refine g_callV (rest := []) (st1 := [.int (f_X7_igniterB x (par1 w) ω)]) C (c_X7_igniterB x (par1 w) (par1_bb w) hb ω) (cwV 2 C.hts gL_act_X7_igniter rfl rfl rfl md_X7_igniter ⟨(Nat.le_of_ble_eq_true rfl), (Nat.le_of_ble_eq_true rfl)⟩) (by decide) (mk_0 (by decide)) rfl rfl rfl rfl rfl (Nat.le_of_ble_eq_true rfl) dL_act_186 (Nat.le_of_ble_eq_true rfl) (Nat.le_of_ble_eq_true rfl) ?_
      exact g_iret C hret hlk rfl rfl dL_act_189
    · refine g_iconst (v := (par1 w)) C dL_act_181 (by unfold par1; rw [if_pos h]; decide) ?_
      refine g_goto (tgt := 186) C dL_act_182 (by decide) ?_
      refine g_callV (rest := []) (st1 := [.int (f_X7_igniterB x (par1 w) ω)]) C (c_X7_igniterB x (par1 w) (par1_bb w) hb ω) (cwV 2 C.hts gL_act_X7_igniter rfl rfl rfl md_X7_igniter ⟨(Nat.le_of_ble_eq_true rfl), (Nat.le_of_ble_eq_true rfl)⟩) (by decide) (mk_0 (by decide)) rfl rfl rfl rfl rfl (Nat.le_of_ble_eq_true rfl) dL_act_186 (Nat.le_of_ble_eq_true rfl) (Nat.le_of_ble_eq_true rfl) ?_
      exact g_iret C hret hlk rfl rfl dL_act_189
  · have eb : (burn x (fun k => f_X7_igniter k (par1 w) ω) ω) = (fun k => f_X7_igniter k (par1 w) ω) x.toNatClampNeg := if_neg hb
    rw [eb]
    obtain ⟨hk, e1⟩ := burn_4 hb
    generalize x.toNatClampNeg = k at hk e1 ⊢
    subst e1
    refine g_aload_n C dL_act_173 rfl 3 rfl ?_
    refine g_iload_n C dL_act_174 rfl 0 rfl ?_
    refine g_iload_n C dL_act_175 rfl 1 rfl ?_
    refine g_iconst (v := 1) C dL_act_176 (by decide) ?_
    refine g_iand (v := (w &&& 1)) C dL_act_177 rfl ?_
    refine g_if_ne (tgt := 185) C dL_act_178 (by decide) (fun h => ?_) (fun h => ?_)
    · refine g_iconst (v := (par1 w)) C dL_act_185 (by unfold par1; rw [if_neg h]; decide) ?_
      refine g_callV (rest := []) (st1 := [.int (f_X7_igniter k (par1 w) ω).1]) C (c_X7_igniter k (par1 w) (par1_bb w) hk ω hst) (cwV 2 C.hts gL_act_X7_igniter rfl rfl rfl md_X7_igniter ⟨(Nat.le_of_ble_eq_true rfl), (Nat.le_of_ble_eq_true rfl)⟩) (by decide) (mk_0 (by decide)) rfl rfl rfl rfl rfl (Nat.le_of_ble_eq_true rfl) dL_act_186 (Nat.le_of_ble_eq_true rfl) (Nat.le_of_ble_eq_true rfl) ?_
      exact g_iret C hret hlk rfl rfl dL_act_189
    · refine g_iconst (v := (par1 w)) C dL_act_181 (by unfold par1; rw [if_pos h]; decide) ?_
      refine g_goto (tgt := 186) C dL_act_182 (by decide) ?_
      refine g_callV (rest := []) (st1 := [.int (f_X7_igniter k (par1 w) ω).1]) C (c_X7_igniter k (par1 w) (par1_bb w) hk ω hst) (cwV 2 C.hts gL_act_X7_igniter rfl rfl rfl md_X7_igniter ⟨(Nat.le_of_ble_eq_true rfl), (Nat.le_of_ble_eq_true rfl)⟩) (by decide) (mk_0 (by decide)) rfl rfl rfl rfl rfl (Nat.le_of_ble_eq_true rfl) dL_act_186 (Nat.le_of_ble_eq_true rfl) (Nat.le_of_ble_eq_true rfl) ?_
      exact g_iret C hret hlk rfl rfl dL_act_189
set_option maxRecDepth 100000 in
set_option maxHeartbeats 4000000 in
theorem act_8 (C : GC p rm_L_act s m args meth c cL_act 4 wsL_act RL sa D (tyX X) (va_A (gw 120 ad (mk X ad ω)) s.heap.size)) (hret : meth.sig.returnType = some .int) (hlk : meth.locks = false) (hst : hstP ω) : GV p l e rm_L_act s m args below meth c 0 0 (CQ below args s D 120 ad (mk X ad ω) (some (.int (burn x (fun k => f_X7_light k ω) ω).1)) (mk X ad (burn x (fun k => f_X7_light k ω) ω).2)) D (va_A (gw 120 ad (mk X ad ω)) s.heap.size) 4 120 ad (mk X ad ω) [(3, .int x), (2, .int w), (1, .int v), (0, .ref (ad 0))] 190 [] := by
  by_cases hb : x < 0 ∨ 4 ≤ x
  · have eb : (burn x (fun k => f_X7_light k ω) ω) = (-1, ω) := if_pos hb
    rw [eb]
    refine g_aload_n C dL_act_190 rfl 3 rfl ?_
    refine g_iload_n C dL_act_191 rfl 0 rfl ?_
    refine g_callV (rest := []) (st1 := [.int (f_X7_lightB x ω)]) C (c_X7_lightB x hb ω) (cwV 1 C.hts gL_act_X7_light rfl rfl rfl md_X7_light ⟨(Nat.le_of_ble_eq_true rfl), (Nat.le_of_ble_eq_true rfl)⟩) (by decide) (mk_0 (by decide)) rfl rfl rfl rfl rfl (Nat.le_of_ble_eq_true rfl) dL_act_192 (Nat.le_of_ble_eq_true rfl) (Nat.le_of_ble_eq_true rfl) ?_
    exact g_iret C hret hlk rfl rfl dL_act_195
  · have eb : (burn x (fun k => f_X7_light k ω) ω) = (fun k => f_X7_light k ω) x.toNatClampNeg := if_neg hb
    rw [eb]
    obtain ⟨hk, e1⟩ := burn_4 hb
    generalize x.toNatClampNeg = k at hk e1 ⊢
    subst e1
    refine g_aload_n C dL_act_190 rfl 3 rfl ?_
    refine g_iload_n C dL_act_191 rfl 0 rfl ?_
    refine g_callV (rest := []) (st1 := [.int (f_X7_light k ω).1]) C (c_X7_light k hk ω hst) (cwV 1 C.hts gL_act_X7_light rfl rfl rfl md_X7_light ⟨(Nat.le_of_ble_eq_true rfl), (Nat.le_of_ble_eq_true rfl)⟩) (by decide) (mk_0 (by decide)) rfl rfl rfl rfl rfl (Nat.le_of_ble_eq_true rfl) dL_act_192 (Nat.le_of_ble_eq_true rfl) (Nat.le_of_ble_eq_true rfl) ?_
    exact g_iret C hret hlk rfl rfl dL_act_195
set_option maxRecDepth 100000 in
set_option maxHeartbeats 4000000 in
theorem act_10 (C : GC p rm_L_act s m args meth c cL_act 4 wsL_act RL sa D (tyX X) (va_A (gw 120 ad (mk X ad ω)) s.heap.size)) (hret : meth.sig.returnType = some .int) (hlk : meth.locks = false) (hst : hstP ω) : GV p l e rm_L_act s m args below meth c 0 0 (CQ below args s D 120 ad (mk X ad ω) (some (.int (burn x (fun k => f_X7_unlock k ω) ω).1)) (mk X ad (burn x (fun k => f_X7_unlock k ω) ω).2)) D (va_A (gw 120 ad (mk X ad ω)) s.heap.size) 4 120 ad (mk X ad ω) [(3, .int x), (2, .int w), (1, .int v), (0, .ref (ad 0))] 196 [] := by
  by_cases hb : x < 0 ∨ 4 ≤ x
  · have eb : (burn x (fun k => f_X7_unlock k ω) ω) = (-1, ω) := if_pos hb
    rw [eb]
    refine g_aload_n C dL_act_196 rfl 3 rfl ?_
    refine g_iload_n C dL_act_197 rfl 0 rfl ?_
    refine g_callV (rest := []) (st1 := [.int (f_X7_unlockB x ω)]) C (c_X7_unlockB x hb ω) (cwV 1 C.hts gL_act_X7_unlock rfl rfl rfl md_X7_unlock ⟨(Nat.le_of_ble_eq_true rfl), (Nat.le_of_ble_eq_true rfl)⟩) (by decide) (mk_0 (by decide)) rfl rfl rfl rfl rfl (Nat.le_of_ble_eq_true rfl) dL_act_198 (Nat.le_of_ble_eq_true rfl) (Nat.le_of_ble_eq_true rfl) ?_
    exact g_iret C hret hlk rfl rfl dL_act_201
  · have eb : (burn x (fun k => f_X7_unlock k ω) ω) = (fun k => f_X7_unlock k ω) x.toNatClampNeg := if_neg hb
    rw [eb]
    obtain ⟨hk, e1⟩ := burn_4 hb
    generalize x.toNatClampNeg = k at hk e1 ⊢
    subst e1
    refine g_aload_n C dL_act_196 rfl 3 rfl ?_
    refine g_iload_n C dL_act_197 rfl 0 rfl ?_
    refine g_callV (rest := []) (st1 := [.int (f_X7_unlock k ω).1]) C (c_X7_unlock k hk ω hst) (cwV 1 C.hts gL_act_X7_unlock rfl rfl rfl md_X7_unlock ⟨(Nat.le_of_ble_eq_true rfl), (Nat.le_of_ble_eq_true rfl)⟩) (by decide) (mk_0 (by decide)) rfl rfl rfl rfl rfl (Nat.le_of_ble_eq_true rfl) dL_act_198 (Nat.le_of_ble_eq_true rfl) (Nat.le_of_ble_eq_true rfl) ?_
    exact g_iret C hret hlk rfl rfl dL_act_201
set_option maxRecDepth 100000 in
set_option maxHeartbeats 4000000 in
theorem act_11 (C : GC p rm_L_act s m args meth c cL_act 4 wsL_act RL sa D (tyX X) (va_A (gw 120 ad (mk X ad ω)) s.heap.size)) (hret : meth.sig.returnType = some .int) (hlk : meth.locks = false) (hst : hstP ω) : GV p l e rm_L_act s m args below meth c 0 0 (CQ below args s D 120 ad (mk X ad ω) (some (.int (f_X7_restore ω).1)) (mk X ad (f_X7_restore ω).2)) D (va_A (gw 120 ad (mk X ad ω)) s.heap.size) 4 120 ad (mk X ad ω) [(3, .int x), (2, .int w), (1, .int v), (0, .ref (ad 0))] 202 [] := by
  refine g_aload_n C dL_act_202 rfl 3 rfl ?_
  refine g_callV (rest := []) (st1 := [.int (f_X7_restore ω).1]) C (c_X7_restore ω hst) (cwV 0 C.hts gL_act_X7_restore rfl rfl rfl md_X7_restore ⟨(Nat.le_of_ble_eq_true rfl), (Nat.le_of_ble_eq_true rfl)⟩) (by decide) (mk_0 (by decide)) rfl rfl rfl rfl rfl (Nat.le_of_ble_eq_true rfl) dL_act_203 (Nat.le_of_ble_eq_true rfl) (Nat.le_of_ble_eq_true rfl) ?_
  exact g_iret C hret hlk rfl rfl dL_act_206
set_option maxRecDepth 100000 in
set_option maxHeartbeats 4000000 in
theorem act_12 (C : GC p rm_L_act s m args meth c cL_act 4 wsL_act RL sa D (tyX X) (va_A (gw 120 ad (mk X ad ω)) s.heap.size)) (hret : meth.sig.returnType = some .int) (hlk : meth.locks = false) (hst : hstP ω) : GV p l e rm_L_act s m args below meth c 0 0 (CQ below args s D 120 ad (mk X ad ω) (some (.int (passX (fun t => f_X7_pass t ω) (1 + lowf w (mPass w)) ω).1)) (mk X ad (passX (fun t => f_X7_pass t ω) (1 + lowf w (mPass w)) ω).2)) D (va_A (gw 120 ad (mk X ad ω)) s.heap.size) 4 120 ad (mk X ad ω) [(3, .int x), (2, .int w), (1, .int v), (0, .ref (ad 0))] 207 [] := by
  obtain ⟨y, hx⟩ : ∃ y, 1 + lowf w (mPass w) = y := ⟨_, rfl⟩
  rw [hx]
  by_cases hb : y < 1 ∨ 200 < y
  · have eb : (passX (fun t => f_X7_pass t ω) y ω) = (-2, ω) := if_pos hb
    rw [eb]
    refine g_aload_n C dL_act_207 rfl 3 rfl ?_
    refine g_iconst (v := 1) C dL_act_208 (by decide) ?_
    refine g_iload_n C dL_act_209 rfl 1 rfl ?_
    refine g_iload_n C dL_act_210 rfl 1 rfl ?_
    refine g_bipush (v := 9) C dL_act_211 (by decide) ?_
    refine g_ishr (v := (w >>> ((9 : Int32) &&& 31))) C dL_act_213 rfl ?_
    refine g_iconst (v := 3) C dL_act_214 (by decide) ?_
    refine g_iand (v := ((w >>> ((9 : Int32) &&& 31)) &&& 3)) C dL_act_215 rfl ?_
    refine g_if_ne (tgt := 225) C dL_act_216 (by decide) (fun h => ?_) (fun h => ?_)
    · refine g_bipush (v := (mPass w)) C dL_act_225 (by unfold mPass; rw [if_neg h]; decide) ?_
      refine g_callS (rest := [.int 1, .ref (ad 0)]) (st1 := [.int (lowf w (mPass w)), .int 1, .ref (ad 0)]) C (c_L_low w (mPass w) (mPass_ne w) (mk X ad ω)) (va_cwS 2 C.hts gL_act_L_low rfl rfl rfl md_L_low.2 ⟨(Nat.le_of_ble_eq_true rfl), (Nat.le_of_ble_eq_true rfl)⟩) rfl rfl rfl (Nat.le_of_ble_eq_true rfl) dL_act_227 (Nat.le_of_ble_eq_true rfl) (Nat.le_of_ble_eq_true rfl) ?_
      refine g_iadd (v := y) C dL_act_230 hx ?_
      refine g_callV (rest := []) (st1 := [.int (f_X7_passB y ω)]) C (c_X7_passB y hb ω) (cwV 1 C.hts gL_act_X7_pass rfl rfl rfl md_X7_pass ⟨(Nat.le_of_ble_eq_true rfl), (Nat.le_of_ble_eq_true rfl)⟩) (by decide) (mk_0 (by decide)) rfl rfl rfl rfl rfl (Nat.le_of_ble_eq_true rfl) dL_act_231 (Nat.le_of_ble_eq_true rfl) (Nat.le_of_ble_eq_true rfl) ?_
      exact g_iret C hret hlk rfl rfl dL_act_234
    · refine g_sipush (v := (mPass w)) C dL_act_219 (by unfold mPass; rw [if_pos h]; decide) ?_
      refine g_goto (tgt := 227) C dL_act_222 (by decide) ?_
      refine g_callS (rest := [.int 1, .ref (ad 0)]) (st1 := [.int (lowf w (mPass w)), .int 1, .ref (ad 0)]) C (c_L_low w (mPass w) (mPass_ne w) (mk X ad ω)) (va_cwS 2 C.hts gL_act_L_low rfl rfl rfl md_L_low.2 ⟨(Nat.le_of_ble_eq_true rfl), (Nat.le_of_ble_eq_true rfl)⟩) rfl rfl rfl (Nat.le_of_ble_eq_true rfl) dL_act_227 (Nat.le_of_ble_eq_true rfl) (Nat.le_of_ble_eq_true rfl) ?_
      refine g_iadd (v := y) C dL_act_230 hx ?_
      refine g_callV (rest := []) (st1 := [.int (f_X7_passB y ω)]) C (c_X7_passB y hb ω) (cwV 1 C.hts gL_act_X7_pass rfl rfl rfl md_X7_pass ⟨(Nat.le_of_ble_eq_true rfl), (Nat.le_of_ble_eq_true rfl)⟩) (by decide) (mk_0 (by decide)) rfl rfl rfl rfl rfl (Nat.le_of_ble_eq_true rfl) dL_act_231 (Nat.le_of_ble_eq_true rfl) (Nat.le_of_ble_eq_true rfl) ?_
      exact g_iret C hret hlk rfl rfl dL_act_234
  · have eb : (passX (fun t => f_X7_pass t ω) y ω) = (fun t => f_X7_pass t ω) y.toNatClampNeg := if_neg hb
    rw [eb]
    obtain ⟨hk, e1⟩ := tick_200 hb
    generalize y.toNatClampNeg = k at hk e1 ⊢
    subst e1
    refine g_aload_n C dL_act_207 rfl 3 rfl ?_
    refine g_iconst (v := 1) C dL_act_208 (by decide) ?_
    refine g_iload_n C dL_act_209 rfl 1 rfl ?_
    refine g_iload_n C dL_act_210 rfl 1 rfl ?_
    refine g_bipush (v := 9) C dL_act_211 (by decide) ?_
    refine g_ishr (v := (w >>> ((9 : Int32) &&& 31))) C dL_act_213 rfl ?_
    refine g_iconst (v := 3) C dL_act_214 (by decide) ?_
    refine g_iand (v := ((w >>> ((9 : Int32) &&& 31)) &&& 3)) C dL_act_215 rfl ?_
    refine g_if_ne (tgt := 225) C dL_act_216 (by decide) (fun h => ?_) (fun h => ?_)
    · refine g_bipush (v := (mPass w)) C dL_act_225 (by unfold mPass; rw [if_neg h]; decide) ?_
      refine g_callS (rest := [.int 1, .ref (ad 0)]) (st1 := [.int (lowf w (mPass w)), .int 1, .ref (ad 0)]) C (c_L_low w (mPass w) (mPass_ne w) (mk X ad ω)) (va_cwS 2 C.hts gL_act_L_low rfl rfl rfl md_L_low.2 ⟨(Nat.le_of_ble_eq_true rfl), (Nat.le_of_ble_eq_true rfl)⟩) rfl rfl rfl (Nat.le_of_ble_eq_true rfl) dL_act_227 (Nat.le_of_ble_eq_true rfl) (Nat.le_of_ble_eq_true rfl) ?_
      refine g_iadd (v := (nI k)) C dL_act_230 hx ?_
      refine g_callV (rest := []) (st1 := [.int (f_X7_pass k ω).1]) C (c_X7_pass k hk ω hst) (cwV 1 C.hts gL_act_X7_pass rfl rfl rfl md_X7_pass ⟨(Nat.le_of_ble_eq_true rfl), (Nat.le_of_ble_eq_true rfl)⟩) (by decide) (mk_0 (by decide)) rfl rfl rfl rfl rfl (Nat.le_of_ble_eq_true rfl) dL_act_231 (Nat.le_of_ble_eq_true rfl) (Nat.le_of_ble_eq_true rfl) ?_
      exact g_iret C hret hlk rfl rfl dL_act_234
    · refine g_sipush (v := (mPass w)) C dL_act_219 (by unfold mPass; rw [if_pos h]; decide) ?_
      refine g_goto (tgt := 227) C dL_act_222 (by decide) ?_
      refine g_callS (rest := [.int 1, .ref (ad 0)]) (st1 := [.int (lowf w (mPass w)), .int 1, .ref (ad 0)]) C (c_L_low w (mPass w) (mPass_ne w) (mk X ad ω)) (va_cwS 2 C.hts gL_act_L_low rfl rfl rfl md_L_low.2 ⟨(Nat.le_of_ble_eq_true rfl), (Nat.le_of_ble_eq_true rfl)⟩) rfl rfl rfl (Nat.le_of_ble_eq_true rfl) dL_act_227 (Nat.le_of_ble_eq_true rfl) (Nat.le_of_ble_eq_true rfl) ?_
      refine g_iadd (v := (nI k)) C dL_act_230 hx ?_
      refine g_callV (rest := []) (st1 := [.int (f_X7_pass k ω).1]) C (c_X7_pass k hk ω hst) (cwV 1 C.hts gL_act_X7_pass rfl rfl rfl md_X7_pass ⟨(Nat.le_of_ble_eq_true rfl), (Nat.le_of_ble_eq_true rfl)⟩) (by decide) (mk_0 (by decide)) rfl rfl rfl rfl rfl (Nat.le_of_ble_eq_true rfl) dL_act_231 (Nat.le_of_ble_eq_true rfl) (Nat.le_of_ble_eq_true rfl) ?_
      exact g_iret C hret hlk rfl rfl dL_act_234
end
theorem k_and15 (z : Int32) : ∃ k, k < 16 ∧ z &&& 15 = nI k := by
  refine ⟨z.toBitVec.toNat % 16, Nat.mod_lt _ (by decide), ?_⟩
  apply Int32.toBitVec_inj.mp
  apply BitVec.eq_of_toNat_eq
  rw [pk_tn (by omega), Int32.toBitVec_and, BitVec.toNat_and]
  exact Nat.and_two_pow_sub_one_eq_mod _ 4
theorem sel_nI {v : Int32} {k : Nat} (hk : k < 16) (e : v &&& 15 = nI k) : sel v = k := by
  unfold sel
  rw [e]
  exact nI_clamp (by omega)
set_option maxRecDepth 100000 in
set_option maxHeartbeats 4000000 in
theorem c_L_act {l_ : Launch} {sa : Nat → Nat} {D : va_G} {X : Nat → ClassId} {ad : Nat → Nat} (v w : Int32) (ω : Mem) (hst : hstP ω) : CT l_ yL_act wsL_act rm_L_act sa D (tyX X) 120 ad (mk X ad ω) [.ref (ad 0), .int v, .int w] (some (.int (actF v w ω (sel v)).1)) (mk X ad (actF v w ω (sel v)).2) := by
  obtain ⟨k, hk, e⟩ := k_and15 v
  rw [sel_nI hk e]
  refine ct_of [(0, .ref (ad 0)), (1, .int v), (2, .int w)] (by decide +kernel) rfl rfl (Nat.le_of_ble_eq_true rfl) rfl ?_
  intro p_ e_ s_ m_ args_ below_ meth_ c_ C hret hlk hin
  refine gv_lv (lv' := [(2, .int w), (1, .int v), (0, .ref (ad 0))]) [2, 1, 0] rfl ?_
  refine g_iload_n C dL_act_0 rfl 1 rfl ?_
  refine g_iconst (v := 4) C dL_act_1 (by decide) ?_
  refine g_ishr (v := (v >>> ((4 : Int32) &&& 31))) C dL_act_2 rfl ?_
  refine g_iconst (v := 5) C dL_act_3 (by decide) ?_
  refine g_callS (rest := []) (st1 := [.int (lowf (v >>> ((4 : Int32) &&& 31)) 5)]) C (c_L_low (v >>> ((4 : Int32) &&& 31)) 5 (by decide) (mk X ad ω)) (va_cwS 2 C.hts gL_act_L_low rfl rfl rfl md_L_low.2 ⟨(Nat.le_of_ble_eq_true rfl), (Nat.le_of_ble_eq_true rfl)⟩) rfl rfl rfl (Nat.le_of_ble_eq_true rfl) dL_act_4 (Nat.le_of_ble_eq_true rfl) (Nat.le_of_ble_eq_true rfl) ?_
  refine g_istore_n (lv' := [(3, .int (bOf v)), (2, .int w), (1, .int v), (0, .ref (ad 0))]) C dL_act_7 rfl (by decide) rfl ?_
  refine g_iload_n C dL_act_8 rfl 2 rfl ?_
  refine g_bipush (v := 15) C dL_act_9 (by decide) ?_
  refine g_iand (v := (nI k)) C dL_act_11 e ?_
  clear e
  match k, hk with
  | 0, _ => exact g_tabIn (off := 64) (tgt := 76) C dL_act_12 (by decide +kernel) (by decide +kernel) (by decide +kernel) (by decide) (act_0 C hret hlk hst)
  | 1, _ => exact g_tabIn (off := 97) (tgt := 109) C dL_act_12 (by decide +kernel) (by decide +kernel) (by decide +kernel) (by decide) (act_1 C hret hlk hst)
  | 2, _ => exact g_tabIn (off := 108) (tgt := 120) C dL_act_12 (by decide +kernel) (by decide +kernel) (by decide +kernel) (by decide) (act_2 C hret hlk hst)
  | 3, _ => exact g_tabIn (off := 133) (tgt := 145) C dL_act_12 (by decide +kernel) (by decide +kernel) (by decide +kernel) (by decide) (act_3 C hret hlk hst)
  | 4, _ => exact g_tabIn (off := 133) (tgt := 145) C dL_act_12 (by decide +kernel) (by decide +kernel) (by decide +kernel) (by decide) (act_3 C hret hlk hst)
  | 5, _ => exact g_tabIn (off := 144) (tgt := 156) C dL_act_12 (by decide +kernel) (by decide +kernel) (by decide +kernel) (by decide) (act_5 C hret hlk hst)
  | 6, _ => exact g_tabIn (off := 144) (tgt := 156) C dL_act_12 (by decide +kernel) (by decide +kernel) (by decide +kernel) (by decide) (act_5 C hret hlk hst)
  | 7, _ => exact g_tabIn (off := 161) (tgt := 173) C dL_act_12 (by decide +kernel) (by decide +kernel) (by decide +kernel) (by decide) (act_7 C hret hlk hst)
  | 8, _ => exact g_tabIn (off := 178) (tgt := 190) C dL_act_12 (by decide +kernel) (by decide +kernel) (by decide +kernel) (by decide) (act_8 C hret hlk hst)
  | 9, _ => exact g_tabIn (off := 178) (tgt := 190) C dL_act_12 (by decide +kernel) (by decide +kernel) (by decide +kernel) (by decide) (act_8 C hret hlk hst)
  | 10, _ => exact g_tabIn (off := 184) (tgt := 196) C dL_act_12 (by decide +kernel) (by decide +kernel) (by decide +kernel) (by decide) (act_10 C hret hlk hst)
  | 11, _ => exact g_tabIn (off := 190) (tgt := 202) C dL_act_12 (by decide +kernel) (by decide +kernel) (by decide +kernel) (by decide) (act_11 C hret hlk hst)
  | k + 12, hk =>
    refine g_tabOut (tgt := 207) C dL_act_12 (Or.inr ?_) (by decide) (act_12 C hret hlk hst)
    rw [nI_toInt (by omega)]
    omega
