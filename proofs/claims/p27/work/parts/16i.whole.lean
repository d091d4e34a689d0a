abbrev rm_L_isWhole : Room := { frames := 7, cells := 0, slots := 0, locals := 154 }
theorem md_L_isWhole : yL_isWhole.cls = RL ∧ yL_isWhole.cls ≠ "java/lang/invoke/MethodHandle" ∧ yL_isWhole.cls ≠ "java/lang/invoke/VarHandle" ∧ (parseMethodDescriptor yL_isWhole.desc).map (fun d => d.parameters.length) = some 3 := by decide +kernel
set_option maxRecDepth 100000 in
set_option maxHeartbeats 4000000 in
theorem c_L_isWhole1 {l_ : Launch} {sa : Nat → Nat} {D : va_G} {X : Nat → ClassId} {ad : Nat → Nat} (a b T : Nat) (ω : Mem) (hT : f_X7_count 0 ω = nI T) (hTT : T ≤ 99999) (ha : 1 ≤ a ∧ a ≤ 9) (hb : 1 ≤ b ∧ b ≤ 30) (hn : ¬ T + a + b ≤ 99999) : CT l_ yL_isWhole wsL_isWhole rm_L_isWhole sa D (tyX X) 120 ad (mk X ad ω) [.ref (ad 0), .int (nI a), .int (nI b)] (some (.int 1)) (mk X ad ω) := by
  refine ct_of [(0, .ref (ad 0)), (1, .int (nI a)), (2, .int (nI b))] (by decide +kernel) rfl rfl (Nat.le_of_ble_eq_true rfl) rfl ?_
  intro p_ e_ s_ m_ args_ below_ meth_ c_ C hret hlk hin
  refine gv_lv (lv' := [(2, .int (nI b)), (1, .int (nI a)), (0, .ref (ad 0))]) [2, 1, 0] rfl ?_
  refine g_aload_n C dL_isWhole_0 rfl 2 rfl ?_
  refine g_iconst (v := 0) C dL_isWhole_1 (by decide) ?_
  refine g_callV (rest := []) (st1 := [.int (nI T)]) C (c_cnt (w := 0) hT) (cwV 1 C.hts gL_isWhole_X7_count rfl rfl rfl md_X7_count ⟨(Nat.le_of_ble_eq_true rfl), (Nat.le_of_ble_eq_true rfl)⟩) (by decide) (mk_0 (by decide)) rfl rfl rfl rfl rfl (Nat.le_of_ble_eq_true rfl) dL_isWhole_2 (Nat.le_of_ble_eq_true rfl) (Nat.le_of_ble_eq_true rfl) ?_
  refine g_iload_n C dL_isWhole_5 rfl 1 rfl ?_
  refine g_iadd (v := (nI (T + a))) C dL_isWhole_6 (nI_add T a) ?_
  refine g_iload_n C dL_isWhole_7 rfl 0 rfl ?_
  refine g_iadd (v := (nI (T + a + b))) C dL_isWhole_8 (nI_add (T + a) b) ?_
  refine g_ldc (v := 99999) C (C.hts _ (by decide +kernel : Cond.constant RL 68 99999 ∈ wsL_isWhole)) dL_isWhole_9 ?_
  refine g_icmp_le (tgt := 16) C dL_isWhole_11 (by decide) (fun q => absurd ((nI_leI (b := 99999) (by omega) (by decide)).1 q) hn) (fun _ => ?_)
  refine g_iconst (v := 1) C dL_isWhole_14 (by decide) ?_
  exact g_zret C hret hlk (nar_b (by decide)).1 rfl rfl dL_isWhole_15
set_option maxRecDepth 100000 in
set_option maxHeartbeats 4000000 in
theorem c_L_isWhole2 {l_ : Launch} {sa : Nat → Nat} {D : va_G} {X : Nat → ClassId} {ad : Nat → Nat} (a b T : Nat) (ω ω1 ω2 ω3 ω4 ω5 ω6 : Mem) (hT : f_X7_count 0 ω = nI T) (ha : 1 ≤ a ∧ a ≤ 9) (hb : 1 ≤ b ∧ b ≤ 30) (hT2 : T + a + b ≤ 99999) (hst : hstP ω) (e1 : (f_X7_pass a ω).2 = ω1) (e2 : (f_X7_pass b ω1).2 = ω2) (e3 : (f_X7_undo ω2).2 = ω3) (e4 : (f_X7_undo ω3).2 = ω4) (e5 : (f_X7_pass (a + b) ω4).2 = ω5) (e6 : (f_X7_undo ω5).2 = ω6) (h1 : hstP ω1) (h2 : hstP ω2) (h3 : hstP ω3) (h4 : hstP ω4) (h5 : hstP ω5) (r : (f_X7_pass (a + b) ω4).1 = (f_X7_pass a ω).1 + (f_X7_pass b ω1).1) (d5 : dig ω5 = dig ω2) (d6 : dig ω6 = dig ω4) : CT l_ yL_isWhole wsL_isWhole rm_L_isWhole sa D (tyX X) 120 ad (mk X ad ω) [.ref (ad 0), .int (nI a), .int (nI b)] (some (.int 1)) (mk X ad ω6) := by
  refine ct_of [(0, .ref (ad 0)), (1, .int (nI a)), (2, .int (nI b))] (by decide +kernel) rfl rfl (Nat.le_of_ble_eq_true rfl) rfl ?_
  intro p_ e_ s_ m_ args_ below_ meth_ c_ C hret hlk hin
  refine gv_lv (lv' := [(2, .int (nI b)), (1, .int (nI a)), (0, .ref (ad 0))]) [2, 1, 0] rfl ?_
  refine g_aload_n C dL_isWhole_0 rfl 2 rfl ?_
  refine g_iconst (v := 0) C dL_isWhole_1 (by decide) ?_
  refine g_callV (rest := []) (st1 := [.int (nI T)]) C (c_cnt (w := 0) hT) (cwV 1 C.hts gL_isWhole_X7_count rfl rfl rfl md_X7_count ⟨(Nat.le_of_ble_eq_true rfl), (Nat.le_of_ble_eq_true rfl)⟩) (by decide) (mk_0 (by decide)) rfl rfl rfl rfl rfl (Nat.le_of_ble_eq_true rfl) dL_isWhole_2 (Nat.le_of_ble_eq_true rfl) (Nat.le_of_ble_eq_true rfl) ?_
  refine g_iload_n C dL_isWhole_5 rfl 1 rfl ?_
  refine g_iadd (v := (nI (T + a))) C dL_isWhole_6 (nI_add T a) ?_
  refine g_iload_n C dL_isWhole_7 rfl 0 rfl ?_
  refine g_iadd (v := (nI (T + a + b))) C dL_isWhole_8 (nI_add (T + a) b) ?_
  refine g_ldc (v := 99999) C (C.hts _ (by decide +kernel : Cond.constant RL 68 99999 ∈ wsL_isWhole)) dL_isWhole_9 ?_
  refine g_icmp_le (tgt := 16) C dL_isWhole_11 (by decide) (fun _ => ?_) (fun q => absurd (nI_le (b := 99999) hT2 (by decide)) q)
  refine g_lconst (v := 0) C dL_isWhole_16 (by decide) ?_
  refine g_lstore_n (lv' := [(3, .long 0), (2, .int (nI b)), (1, .int (nI a)), (0, .ref (ad 0))]) C dL_isWhole_17 rfl (by decide) rfl ?_
  refine g_aload_n C dL_isWhole_18 rfl 3 rfl ?_
  refine g_iload_n C dL_isWhole_19 rfl 2 rfl ?_
  refine g_callV (rest := []) (st1 := [.int (f_X7_pass a ω).1]) C (c_pas (by omega) hst rfl e1) (cwV 1 C.hts gL_isWhole_X7_pass rfl rfl rfl md_X7_pass ⟨(Nat.le_of_ble_eq_true rfl), (Nat.le_of_ble_eq_true rfl)⟩) (by decide) (mk_0 (by decide)) rfl rfl rfl rfl rfl (Nat.le_of_ble_eq_true rfl) dL_isWhole_20 (Nat.le_of_ble_eq_true rfl) (Nat.le_of_ble_eq_true rfl) ?_
  refine g_aload_n C dL_isWhole_23 rfl 3 rfl ?_
  refine g_iload_n C dL_isWhole_24 rfl 1 rfl ?_
  refine g_callV (rest := [.int (f_X7_pass a ω).1]) (st1 := [.int (f_X7_pass b ω1).1, .int (f_X7_pass a ω).1]) C (c_pas (by omega) h1 rfl e2) (cwV 1 C.hts gL_isWhole_X7_pass rfl rfl rfl md_X7_pass ⟨(Nat.le_of_ble_eq_true rfl), (Nat.le_of_ble_eq_true rfl)⟩) (by decide) (mk_0 (by decide)) rfl rfl rfl rfl rfl (Nat.le_of_ble_eq_true rfl) dL_isWhole_25 (Nat.le_of_ble_eq_true rfl) (Nat.le_of_ble_eq_true rfl) ?_
  refine g_iadd (v := ((f_X7_pass a ω).1 + (f_X7_pass b ω1).1)) C dL_isWhole_28 rfl ?_
  refine g_istore (lv' := [(5, .int ((f_X7_pass a ω).1 + (f_X7_pass b ω1).1)), (3, .long 0), (2, .int (nI b)), (1, .int (nI a)), (0, .ref (ad 0))]) C dL_isWhole_29 (by decide) rfl ?_
  refine g_aload_n C dL_isWhole_31 rfl 4 rfl ?_
  refine g_callS (rest := []) (st1 := [.long (dig ω2)]) C (c_L_digest ω2) (va_cwS 1 C.hts gL_isWhole_L_digest rfl rfl rfl md_L_digest.2 ⟨(Nat.le_of_ble_eq_true rfl), (Nat.le_of_ble_eq_true rfl)⟩) rfl rfl rfl (Nat.le_of_ble_eq_true rfl) dL_isWhole_32 (Nat.le_of_ble_eq_true rfl) (Nat.le_of_ble_eq_true rfl) ?_
  refine g_lstore (lv' := [(6, .long (dig ω2)), (5, .int ((f_X7_pass a ω).1 + (f_X7_pass b ω1).1)), (3, .long 0), (2, .int (nI b)), (1, .int (nI a)), (0, .ref (ad 0))]) C dL_isWhole_35 (by decide) rfl ?_
  refine g_aload_n C dL_isWhole_37 rfl 5 rfl ?_
  refine g_callV (rest := []) (st1 := [.int (f_X7_undo ω2).1]) C (c_und h2 rfl e3) (cwV 0 C.hts gL_isWhole_X7_undo rfl rfl rfl md_X7_undo ⟨(Nat.le_of_ble_eq_true rfl), (Nat.le_of_ble_eq_true rfl)⟩) (by decide) (mk_0 (by decide)) rfl rfl rfl rfl rfl (Nat.le_of_ble_eq_true rfl) dL_isWhole_38 (Nat.le_of_ble_eq_true rfl) (Nat.le_of_ble_eq_true rfl) ?_
  refine g_pop C dL_isWhole_41 rfl ?_
  refine g_aload_n C dL_isWhole_42 rfl 5 rfl ?_
  refine g_callV (rest := []) (st1 := [.int (f_X7_undo ω3).1]) C (c_und h3 rfl e4) (cwV 0 C.hts gL_isWhole_X7_undo rfl rfl rfl md_X7_undo ⟨(Nat.le_of_ble_eq_true rfl), (Nat.le_of_ble_eq_true rfl)⟩) (by decide) (mk_0 (by decide)) rfl rfl rfl rfl rfl (Nat.le_of_ble_eq_true rfl) dL_isWhole_43 (Nat.le_of_ble_eq_true rfl) (Nat.le_of_ble_eq_true rfl) ?_
  refine g_pop C dL_isWhole_46 rfl ?_
  refine g_aload_n C dL_isWhole_47 rfl 5 rfl ?_
  refine g_callS (rest := []) (st1 := [.long (dig ω4)]) C (c_L_digest ω4) (va_cwS 1 C.hts gL_isWhole_L_digest rfl rfl rfl md_L_digest.2 ⟨(Nat.le_of_ble_eq_true rfl), (Nat.le_of_ble_eq_true rfl)⟩) rfl rfl rfl (Nat.le_of_ble_eq_true rfl) dL_isWhole_48 (Nat.le_of_ble_eq_true rfl) (Nat.le_of_ble_eq_true rfl) ?_
  refine g_lstore_n (lv' := [(3, .long (dig ω4)), (6, .long (dig ω2)), (5, .int ((f_X7_pass a ω).1 + (f_X7_pass b ω1).1)), (2, .int (nI b)), (1, .int (nI a)), (0, .ref (ad 0))]) C dL_isWhole_51 rfl (by decide) rfl ?_
  refine g_aload_n C dL_isWhole_52 rfl 5 rfl ?_
  refine g_iload_n C dL_isWhole_53 rfl 4 rfl ?_
  refine g_iload_n C dL_isWhole_54 rfl 3 rfl ?_
  refine g_iadd (v := (nI (a + b))) C dL_isWhole_55 (nI_add a b) ?_
  refine g_callV (rest := []) (st1 := [.int (f_X7_pass (a + b) ω4).1]) C (c_pas (by omega) h4 rfl e5) (cwV 1 C.hts gL_isWhole_X7_pass rfl rfl rfl md_X7_pass ⟨(Nat.le_of_ble_eq_true rfl), (Nat.le_of_ble_eq_true rfl)⟩) (by decide) (mk_0 (by decide)) rfl rfl rfl rfl rfl (Nat.le_of_ble_eq_true rfl) dL_isWhole_56 (Nat.le_of_ble_eq_true rfl) (Nat.le_of_ble_eq_true rfl) ?_
  refine g_iload C dL_isWhole_59 2 rfl ?_
  refine g_icmp_ne (tgt := 78) C dL_isWhole_61 (by decide) (fun q => absurd r q) (fun _ => ?_)
  refine g_aload_n C dL_isWhole_64 rfl 5 rfl ?_
  refine g_callS (rest := []) (st1 := [.long (dig ω5)]) C (c_L_digest ω5) (va_cwS 1 C.hts gL_isWhole_L_digest rfl rfl rfl md_L_digest.2 ⟨(Nat.le_of_ble_eq_true rfl), (Nat.le_of_ble_eq_true rfl)⟩) rfl rfl rfl (Nat.le_of_ble_eq_true rfl) dL_isWhole_65 (Nat.le_of_ble_eq_true rfl) (Nat.le_of_ble_eq_true rfl) ?_
  refine g_lload C dL_isWhole_68 1 rfl ?_
  refine g_lcmp C dL_isWhole_70 ?_
  refine g_if_ne (tgt := 78) C dL_isWhole_71 (by decide) (fun q => absurd (cmp_eq d5) q) (fun _ => ?_)
  refine g_iconst (v := 1) C dL_isWhole_74 (by decide) ?_
  refine g_goto (tgt := 79) C dL_isWhole_75 (by decide) ?_
  refine g_istore (lv' := [(8, .int 1), (3, .long (dig ω4)), (6, .long (dig ω2)), (5, .int ((f_X7_pass a ω).1 + (f_X7_pass b ω1).1)), (2, .int (nI b)), (1, .int (nI a)), (0, .ref (ad 0))]) C dL_isWhole_79 (by decide) rfl ?_
  refine g_aload_n C dL_isWhole_81 rfl 6 rfl ?_
  refine g_callV (rest := []) (st1 := [.int (f_X7_undo ω5).1]) C (c_und h5 rfl e6) (cwV 0 C.hts gL_isWhole_X7_undo rfl rfl rfl md_X7_undo ⟨(Nat.le_of_ble_eq_true rfl), (Nat.le_of_ble_eq_true rfl)⟩) (by decide) (mk_0 (by decide)) rfl rfl rfl rfl rfl (Nat.le_of_ble_eq_true rfl) dL_isWhole_82 (Nat.le_of_ble_eq_true rfl) (Nat.le_of_ble_eq_true rfl) ?_
  refine g_pop C dL_isWhole_85 rfl ?_
  refine g_iload C dL_isWhole_86 0 rfl ?_
  refine g_if_eq (tgt := 104) C dL_isWhole_88 (by decide) (fun q => absurd q (by decide)) (fun _ => ?_)
  refine g_aload_n C dL_isWhole_91 rfl 6 rfl ?_
  refine g_callS (rest := []) (st1 := [.long (dig ω6)]) C (c_L_digest ω6) (va_cwS 1 C.hts gL_isWhole_L_digest rfl rfl rfl md_L_digest.2 ⟨(Nat.le_of_ble_eq_true rfl), (Nat.le_of_ble_eq_true rfl)⟩) rfl rfl rfl (Nat.le_of_ble_eq_true rfl) dL_isWhole_92 (Nat.le_of_ble_eq_true rfl) (Nat.le_of_ble_eq_true rfl) ?_
  refine g_lload_n C dL_isWhole_95 rfl 1 rfl ?_
  refine g_lcmp C dL_isWhole_96 ?_
  refine g_if_ne (tgt := 104) C dL_isWhole_97 (by decide) (fun q => absurd (cmp_eq d6) q) (fun _ => ?_)
  refine g_iconst (v := 1) C dL_isWhole_100 (by decide) ?_
  refine g_goto (tgt := 105) C dL_isWhole_101 (by decide) ?_
  exact g_zret C hret hlk (nar_b (by decide)).1 rfl rfl dL_isWhole_105
