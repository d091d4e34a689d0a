abbrev rm_L_digest : Room := { frames := 5, cells := 0, slots := 0, locals := 109 }
theorem md_L_digest : yL_digest.cls = RL ∧ yL_digest.cls ≠ "java/lang/invoke/MethodHandle" ∧ yL_digest.cls ≠ "java/lang/invoke/VarHandle" ∧ (parseMethodDescriptor yL_digest.desc).map (fun d => d.parameters.length) = some 1 := by decide +kernel
section
variable {p : Program} {l : Launch} {e : Env} {s : State} {m : MethodId} {args : Array Value} {below : List Frame} {meth : Method} {c : Code} {Q : State → Prop} {A : Nat → Prop} {sa : Nat → Nat} {D : va_G} {X : Nat → ClassId} {ad : Nat → Nat} {ω : Mem}
set_option maxRecDepth 100000 in
set_option maxHeartbeats 4000000 in
theorem d_loop1 (C : GC p rm_L_digest s m args meth c cL_digest 4 wsL_digest RL sa D (tyX X) A) : ∀ (n j : Nat) (h : Int64), j + n = 13 → GV p l e rm_L_digest s m args below meth c 0 0 Q D A 4 120 ad (mk X ad ω) [(1, .long (dl (fun j => f_X7_count (nI j) ω) n j h)), (0, .ref (ad 0))] 31 [] → GV p l e rm_L_digest s m args below meth c 0 0 Q D A 4 120 ad (mk X ad ω) [(3, .int (nI j)), (1, .long h), (0, .ref (ad 0))] 6 [] := by
  intro n
  induction n with
  | zero =>
    intro j h hj kk
    refine g_iload_n C dL_digest_6 rfl 0 rfl ?_
    refine g_bipush (v := (nI 13)) C dL_digest_7 (by decide) ?_
    refine g_icmp_ge (tgt := 31) C dL_digest_9 (by decide) (fun _ => ?_) (fun z => absurd (nI_le (a := 13) (b := j) (by omega) (by omega)) z)
    refine gv_lv (lv' := [(1, .long h), (0, .ref (ad 0))]) [1, 2] rfl ?_
    exact kk
  | succ n ih =>
    intro j h hj kk
    refine g_iload_n C dL_digest_6 rfl 0 rfl ?_
    refine g_bipush (v := (nI 13)) C dL_digest_7 (by decide) ?_
    refine g_icmp_ge (tgt := 31) C dL_digest_9 (by decide) (fun z => absurd z (nI_ge (a := j) (b := 13) (by omega) (by decide))) (fun _ => ?_)
    refine g_ldc2 (v := 31) C (C.hts _ (by decide +kernel : Cond.constantLong RL 10 31 ∈ wsL_digest)) dL_digest_12 ?_
    refine g_lload_n C dL_digest_15 rfl 1 rfl ?_
    refine g_lmul C dL_digest_16 ?_
    refine g_aload_n C dL_digest_17 rfl 2 rfl ?_
    refine g_iload_n C dL_digest_18 rfl 0 rfl ?_
    refine g_callV (rest := [.long (31 * h)]) (st1 := [.int (f_X7_count (nI j) ω), .long (31 * h)]) C (c_X7_count (nI j) ω) (cwV 1 C.hts gL_digest_X7_count rfl rfl rfl md_X7_count ⟨(Nat.le_of_ble_eq_true rfl), (Nat.le_of_ble_eq_true rfl)⟩) (by decide) (mk_0 (by decide)) rfl rfl rfl rfl rfl (Nat.le_of_ble_eq_true rfl) dL_digest_19 (Nat.le_of_ble_eq_true rfl) (Nat.le_of_ble_eq_true rfl) ?_
    refine g_i2l C dL_digest_22 ?_
    refine g_ladd C dL_digest_23 ?_
    refine g_lstore_n (lv' := [(1, .long ((31 * h) + (f_X7_count (nI j) ω).toInt64)), (3, .int (nI j)), (0, .ref (ad 0))]) C dL_digest_24 rfl (by decide) rfl ?_
    refine g_iinc (k := 1) (v := (nI (j + 1))) (lv' := [(3, .int (nI (j + 1))), (1, .long ((31 * h) + (f_X7_count (nI j) ω).toInt64)), (0, .ref (ad 0))]) C dL_digest_25 rfl (nI_1 j) (by decide) rfl ?_
    refine g_goto (tgt := 6) C dL_digest_28 (by decide) ?_
    refine gv_lv (lv' := [(3, .int (nI (j + 1))), (1, .long ((31 * h) + (f_X7_count (nI j) ω).toInt64)), (0, .ref (ad 0))]) [0, 1, 2] rfl ?_
    exact ih (j + 1) _ (by omega) kk
set_option maxRecDepth 100000 in
set_option maxHeartbeats 4000000 in
theorem d_loop2 (C : GC p rm_L_digest s m args meth c cL_digest 4 wsL_digest RL sa D (tyX X) A) : ∀ (n j : Nat) (h : Int64), j + n = 48 → GV p l e rm_L_digest s m args below meth c 0 0 Q D A 4 120 ad (mk X ad ω) [(1, .long (dl (fun j => f_X7_burner (j / 12) (nI (j % 12)) ω) n j h)), (0, .ref (ad 0))] 65 [] → GV p l e rm_L_digest s m args below meth c 0 0 Q D A 4 120 ad (mk X ad ω) [(3, .int (nI j)), (1, .long h), (0, .ref (ad 0))] 33 [] := by
  intro n
  induction n with
  | zero =>
    intro j h hj kk
    refine g_iload_n C dL_digest_33 rfl 0 rfl ?_
    refine g_bipush (v := (nI 48)) C dL_digest_34 (by decide) ?_
    refine g_icmp_ge (tgt := 65) C dL_digest_36 (by decide) (fun _ => ?_) (fun z => absurd (nI_le (a := 48) (b := j) (by omega) (by omega)) z)
    refine gv_lv (lv' := [(1, .long h), (0, .ref (ad 0))]) [1, 2] rfl ?_
    exact kk
  | succ n ih =>
    intro j h hj kk
    refine g_iload_n C dL_digest_33 rfl 0 rfl ?_
    refine g_bipush (v := (nI 48)) C dL_digest_34 (by decide) ?_
    refine g_icmp_ge (tgt := 65) C dL_digest_36 (by decide) (fun z => absurd z (nI_ge (a := j) (b := 48) (by omega) (by decide))) (fun _ => ?_)
    refine g_ldc2 (v := 31) C (C.hts _ (by decide +kernel : Cond.constantLong RL 10 31 ∈ wsL_digest)) dL_digest_39 ?_
    refine g_lload_n C dL_digest_42 rfl 1 rfl ?_
    refine g_lmul C dL_digest_43 ?_
    refine g_aload_n C dL_digest_44 rfl 2 rfl ?_
    refine g_iload_n C dL_digest_45 rfl 0 rfl ?_
    refine g_bipush (v := (nI 12)) C dL_digest_46 (by decide) ?_
    refine g_idivV (v := (nI (j / 12))) C dL_digest_48 (by decide) (pk_div (by omega) (by decide) (by decide)) ?_
    refine g_iload_n C dL_digest_49 rfl 0 rfl ?_
    refine g_bipush (v := (nI 12)) C dL_digest_50 (by decide) ?_
    refine g_irem (v := (nI (j % 12))) C dL_digest_52 (by decide) (pk_rem (by omega) (by decide) (by decide)) ?_
    refine g_callV (rest := [.long (31 * h)]) (st1 := [.int (f_X7_burner (j / 12) (nI (j % 12)) ω), .long (31 * h)]) C (c_X7_burner (j / 12) (nI (j % 12)) (by omega) ω) (cwV 2 C.hts gL_digest_X7_burner rfl rfl rfl md_X7_burner ⟨(Nat.le_of_ble_eq_true rfl), (Nat.le_of_ble_eq_true rfl)⟩) (by decide) (mk_0 (by decide)) rfl rfl rfl rfl rfl (Nat.le_of_ble_eq_true rfl) dL_digest_53 (Nat.le_of_ble_eq_true rfl) (Nat.le_of_ble_eq_true rfl) ?_
    refine g_i2l C dL_digest_56 ?_
    refine g_ladd C dL_digest_57 ?_
    refine g_lstore_n (lv' := [(1, .long ((31 * h) + (f_X7_burner (j / 12) (nI (j % 12)) ω).toInt64)), (3, .int (nI j)), (0, .ref (ad 0))]) C dL_digest_58 rfl (by decide) rfl ?_
    refine g_iinc (k := 1) (v := (nI (j + 1))) (lv' := [(3, .int (nI (j + 1))), (1, .long ((31 * h) + (f_X7_burner (j / 12) (nI (j % 12)) ω).toInt64)), (0, .ref (ad 0))]) C dL_digest_59 rfl (nI_1 j) (by decide) rfl ?_
    refine g_goto (tgt := 33) C dL_digest_62 (by decide) ?_
    refine gv_lv (lv' := [(3, .int (nI (j + 1))), (1, .long ((31 * h) + (f_X7_burner (j / 12) (nI (j % 12)) ω).toInt64)), (0, .ref (ad 0))]) [0, 1, 2] rfl ?_
    exact ih (j + 1) _ (by omega) kk
set_option maxRecDepth 100000 in
set_option maxHeartbeats 4000000 in
theorem d_loop3 (C : GC p rm_L_digest s m args meth c cL_digest 4 wsL_digest RL sa D (tyX X) A) : ∀ (n j : Nat) (h : Int64), j + n = 12 → GV p l e rm_L_digest s m args below meth c 0 0 Q D A 4 120 ad (mk X ad ω) [(1, .long (dl2 (fun j => f_X7_entry (nI j) 0 ω) (fun j => f_X7_entry (nI j) 1 ω) n j h)), (0, .ref (ad 0))] 105 [] → GV p l e rm_L_digest s m args below meth c 0 0 Q D A 4 120 ad (mk X ad ω) [(3, .int (nI j)), (1, .long h), (0, .ref (ad 0))] 67 [] := by
  intro n
  induction n with
  | zero =>
    intro j h hj kk
    refine g_iload_n C dL_digest_67 rfl 0 rfl ?_
    refine g_bipush (v := (nI 12)) C dL_digest_68 (by decide) ?_
    refine g_icmp_ge (tgt := 105) C dL_digest_70 (by decide) (fun _ => ?_) (fun z => absurd (nI_le (a := 12) (b := j) (by omega) (by omega)) z)
    refine gv_lv (lv' := [(1, .long h), (0, .ref (ad 0))]) [1, 2] rfl ?_
    exact kk
  | succ n ih =>
    intro j h hj kk
    refine g_iload_n C dL_digest_67 rfl 0 rfl ?_
    refine g_bipush (v := (nI 12)) C dL_digest_68 (by decide) ?_
    refine g_icmp_ge (tgt := 105) C dL_digest_70 (by decide) (fun z => absurd z (nI_ge (a := j) (b := 12) (by omega) (by decide))) (fun _ => ?_)
    refine g_ldc2 (v := 31) C (C.hts _ (by decide +kernel : Cond.constantLong RL 10 31 ∈ wsL_digest)) dL_digest_73 ?_
    refine g_ldc2 (v := 31) C (C.hts _ (by decide +kernel : Cond.constantLong RL 10 31 ∈ wsL_digest)) dL_digest_76 ?_
    refine g_lload_n C dL_digest_79 rfl 1 rfl ?_
    refine g_lmul C dL_digest_80 ?_
    refine g_aload_n C dL_digest_81 rfl 2 rfl ?_
    refine g_iload_n C dL_digest_82 rfl 0 rfl ?_
    refine g_iconst (v := 0) C dL_digest_83 (by decide) ?_
    refine g_callV (rest := [.long (31 * h), .long 31]) (st1 := [.int (f_X7_entry (nI j) 0 ω), .long (31 * h), .long 31]) C (c_X7_entry (nI j) 0 ω) (cwV 2 C.hts gL_digest_X7_entry rfl rfl rfl md_X7_entry ⟨(Nat.le_of_ble_eq_true rfl), (Nat.le_of_ble_eq_true rfl)⟩) (by decide) (mk_0 (by decide)) rfl rfl rfl rfl rfl (Nat.le_of_ble_eq_true rfl) dL_digest_84 (Nat.le_of_ble_eq_true rfl) (Nat.le_of_ble_eq_true rfl) ?_
    refine g_i2l C dL_digest_87 ?_
    refine g_ladd C dL_digest_88 ?_
    refine g_lmul C dL_digest_89 ?_
    refine g_aload_n C dL_digest_90 rfl 2 rfl ?_
    refine g_iload_n C dL_digest_91 rfl 0 rfl ?_
    refine g_iconst (v := 1) C dL_digest_92 (by decide) ?_
    refine g_callV (rest := [.long (31 * ((31 * h) + (f_X7_entry (nI j) 0 ω).toInt64))]) (st1 := [.int (f_X7_entry (nI j) 1 ω), .long (31 * ((31 * h) + (f_X7_entry (nI j) 0 ω).toInt64))]) C (c_X7_entry (nI j) 1 ω) (cwV 2 C.hts gL_digest_X7_entry rfl rfl rfl md_X7_entry ⟨(Nat.le_of_ble_eq_true rfl), (Nat.le_of_ble_eq_true rfl)⟩) (by decide) (mk_0 (by decide)) rfl rfl rfl rfl rfl (Nat.le_of_ble_eq_true rfl) dL_digest_93 (Nat.le_of_ble_eq_true rfl) (Nat.le_of_ble_eq_true rfl) ?_
    refine g_i2l C dL_digest_96 ?_
    refine g_ladd C dL_digest_97 ?_
    refine g_lstore_n (lv' := [(1, .long ((31 * ((31 * h) + (f_X7_entry (nI j) 0 ω).toInt64)) + (f_X7_entry (nI j) 1 ω).toInt64)), (3, .int (nI j)), (0, .ref (ad 0))]) C dL_digest_98 rfl (by decide) rfl ?_
    refine g_iinc (k := 1) (v := (nI (j + 1))) (lv' := [(3, .int (nI (j + 1))), (1, .long ((31 * ((31 * h) + (f_X7_entry (nI j) 0 ω).toInt64)) + (f_X7_entry (nI j) 1 ω).toInt64)), (0, .ref (ad 0))]) C dL_digest_99 rfl (nI_1 j) (by decide) rfl ?_
    refine g_goto (tgt := 67) C dL_digest_102 (by decide) ?_
    refine gv_lv (lv' := [(3, .int (nI (j + 1))), (1, .long ((31 * ((31 * h) + (f_X7_entry (nI j) 0 ω).toInt64)) + (f_X7_entry (nI j) 1 ω).toInt64)), (0, .ref (ad 0))]) [0, 1, 2] rfl ?_
    exact ih (j + 1) _ (by omega) kk
set_option maxRecDepth 100000 in
set_option maxHeartbeats 4000000 in
theorem d_loop4 (C : GC p rm_L_digest s m args meth c cL_digest 4 wsL_digest RL sa D (tyX X) A) : ∀ (n j : Nat) (h : Int64), j + n = 30 → GV p l e rm_L_digest s m args below meth c 0 0 Q D A 4 120 ad (mk X ad ω) [(1, .long (dl (fun j => f_X7_event (nI (j / 3)) (nI (j % 3)) ω) n j h)), (0, .ref (ad 0))] 137 [] → GV p l e rm_L_digest s m args below meth c 0 0 Q D A 4 120 ad (mk X ad ω) [(3, .int (nI j)), (1, .long h), (0, .ref (ad 0))] 107 [] := by
  intro n
  induction n with
  | zero =>
    intro j h hj kk
    refine g_iload_n C dL_digest_107 rfl 0 rfl ?_
    refine g_bipush (v := (nI 30)) C dL_digest_108 (by decide) ?_
    refine g_icmp_ge (tgt := 137) C dL_digest_110 (by decide) (fun _ => ?_) (fun z => absurd (nI_le (a := 30) (b := j) (by omega) (by omega)) z)
    refine gv_lv (lv' := [(1, .long h), (0, .ref (ad 0))]) [1, 2] rfl ?_
    exact kk
  | succ n ih =>
    intro j h hj kk
    refine g_iload_n C dL_digest_107 rfl 0 rfl ?_
    refine g_bipush (v := (nI 30)) C dL_digest_108 (by decide) ?_
    refine g_icmp_ge (tgt := 137) C dL_digest_110 (by decide) (fun z => absurd z (nI_ge (a := j) (b := 30) (by omega) (by decide))) (fun _ => ?_)
    refine g_ldc2 (v := 31) C (C.hts _ (by decide +kernel : Cond.constantLong RL 10 31 ∈ wsL_digest)) dL_digest_113 ?_
    refine g_lload_n C dL_digest_116 rfl 1 rfl ?_
    refine g_lmul C dL_digest_117 ?_
    refine g_aload_n C dL_digest_118 rfl 2 rfl ?_
    refine g_iload_n C dL_digest_119 rfl 0 rfl ?_
    refine g_iconst (v := (nI 3)) C dL_digest_120 (by decide) ?_
    refine g_idivV (v := (nI (j / 3))) C dL_digest_121 (by decide) (pk_div (by omega) (by decide) (by decide)) ?_
    refine g_iload_n C dL_digest_122 rfl 0 rfl ?_
    refine g_iconst (v := (nI 3)) C dL_digest_123 (by decide) ?_
    refine g_irem (v := (nI (j % 3))) C dL_digest_124 (by decide) (pk_rem (by omega) (by decide) (by decide)) ?_
    refine g_callV (rest := [.long (31 * h)]) (st1 := [.int (f_X7_event (nI (j / 3)) (nI (j % 3)) ω), .long (31 * h)]) C (c_X7_event (nI (j / 3)) (nI (j % 3)) ω) (cwV 2 C.hts gL_digest_X7_event rfl rfl rfl md_X7_event ⟨(Nat.le_of_ble_eq_true rfl), (Nat.le_of_ble_eq_true rfl)⟩) (by decide) (mk_0 (by decide)) rfl rfl rfl rfl rfl (Nat.le_of_ble_eq_true rfl) dL_digest_125 (Nat.le_of_ble_eq_true rfl) (Nat.le_of_ble_eq_true rfl) ?_
    refine g_i2l C dL_digest_128 ?_
    refine g_ladd C dL_digest_129 ?_
    refine g_lstore_n (lv' := [(1, .long ((31 * h) + (f_X7_event (nI (j / 3)) (nI (j % 3)) ω).toInt64)), (3, .int (nI j)), (0, .ref (ad 0))]) C dL_digest_130 rfl (by decide) rfl ?_
    refine g_iinc (k := 1) (v := (nI (j + 1))) (lv' := [(3, .int (nI (j + 1))), (1, .long ((31 * h) + (f_X7_event (nI (j / 3)) (nI (j % 3)) ω).toInt64)), (0, .ref (ad 0))]) C dL_digest_131 rfl (nI_1 j) (by decide) rfl ?_
    refine g_goto (tgt := 107) C dL_digest_134 (by decide) ?_
    refine gv_lv (lv' := [(3, .int (nI (j + 1))), (1, .long ((31 * h) + (f_X7_event (nI (j / 3)) (nI (j % 3)) ω).toInt64)), (0, .ref (ad 0))]) [0, 1, 2] rfl ?_
    exact ih (j + 1) _ (by omega) kk
end
set_option maxRecDepth 100000 in
set_option maxHeartbeats 4000000 in
theorem c_L_digest {l_ : Launch} {sa : Nat → Nat} {D : va_G} {X : Nat → ClassId} {ad : Nat → Nat} (ω : Mem) : CT l_ yL_digest wsL_digest rm_L_digest sa D (tyX X) 120 ad (mk X ad ω) [.ref (ad 0)] (some (.long (dig ω))) (mk X ad ω) := by
  refine ct_of [(0, .ref (ad 0))] (by decide +kernel) rfl rfl (Nat.le_of_ble_eq_true rfl) rfl ?_
  intro p_ e_ s_ m_ args_ below_ meth_ c_ C hret hlk hin
  refine g_ldc2 (v := 3) C (C.hts _ (by decide +kernel : Cond.constantLong RL 8 3 ∈ wsL_digest)) dL_digest_0 ?_
  refine g_lstore_n (lv' := [(1, .long 3), (0, .ref (ad 0))]) C dL_digest_3 rfl (by decide) rfl ?_
  refine g_iconst (v := (nI 0)) C dL_digest_4 (by decide) ?_
  refine g_istore_n (lv' := [(3, .int (nI 0)), (1, .long 3), (0, .ref (ad 0))]) C dL_digest_5 rfl (by decide) rfl ?_
  refine d_loop1 C 13 0 3 rfl ?_
  refine g_iconst (v := (nI 0)) C dL_digest_31 (by decide) ?_
  refine g_istore_n (lv' := [(3, .int (nI 0)), (1, .long (dl (fun j => f_X7_count (nI j) ω) 13 0 3)), (0, .ref (ad 0))]) C dL_digest_32 rfl (by decide) rfl ?_
  refine d_loop2 C 48 0 _ rfl ?_
  refine g_iconst (v := (nI 0)) C dL_digest_65 (by decide) ?_
  refine g_istore_n (lv' := [(3, .int (nI 0)), (1, .long (dl (fun j => f_X7_burner (j / 12) (nI (j % 12)) ω) 48 0 (dl (fun j => f_X7_count (nI j) ω) 13 0 3))), (0, .ref (ad 0))]) C dL_digest_66 rfl (by decide) rfl ?_
  refine d_loop3 C 12 0 _ rfl ?_
  refine g_iconst (v := (nI 0)) C dL_digest_105 (by decide) ?_
  refine g_istore_n (lv' := [(3, .int (nI 0)), (1, .long (dl2 (fun j => f_X7_entry (nI j) 0 ω) (fun j => f_X7_entry (nI j) 1 ω) 12 0 (dl (fun j => f_X7_burner (j / 12) (nI (j % 12)) ω) 48 0 (dl (fun j => f_X7_count (nI j) ω) 13 0 3)))), (0, .ref (ad 0))]) C dL_digest_106 rfl (by decide) rfl ?_
  refine d_loop4 C 30 0 _ rfl ?_
  have e1 : dig ω = dEnd (fun j => f_X7_setting (nI j) ω) (dl (fun j => f_X7_event (nI (j / 3)) (nI (j % 3)) ω) 30 0 (dl2 (fun j => f_X7_entry (nI j) 0 ω) (fun j => f_X7_entry (nI j) 1 ω) 12 0 (dl (fun j => f_X7_burner (j / 12) (nI (j % 12)) ω) 48 0 (dl (fun j => f_X7_count (nI j) ω) 13 0 3)))) := rfl
  rw [e1]
  generalize (dl (fun j => f_X7_event (nI (j / 3)) (nI (j % 3)) ω) 30 0 (dl2 (fun j => f_X7_entry (nI j) 0 ω) (fun j => f_X7_entry (nI j) 1 ω) 12 0 (dl (fun j => f_X7_burner (j / 12) (nI (j % 12)) ω) 48 0 (dl (fun j => f_X7_count (nI j) ω) 13 0 3)))) = h
  refine g_ldc2 (v := 31) C (C.hts _ (by decide +kernel : Cond.constantLong RL 10 31 ∈ wsL_digest)) dL_digest_137 ?_
  refine g_ldc2 (v := 31) C (C.hts _ (by decide +kernel : Cond.constantLong RL 10 31 ∈ wsL_digest)) dL_digest_140 ?_
  refine g_ldc2 (v := 31) C (C.hts _ (by decide +kernel : Cond.constantLong RL 10 31 ∈ wsL_digest)) dL_digest_143 ?_
  refine g_ldc2 (v := 31) C (C.hts _ (by decide +kernel : Cond.constantLong RL 10 31 ∈ wsL_digest)) dL_digest_146 ?_
  refine g_lload_n C dL_digest_149 rfl 0 rfl ?_
  refine g_lmul C dL_digest_150 ?_
  refine g_aload_n C dL_digest_151 rfl 1 rfl ?_
  refine g_iconst (v := 0) C dL_digest_152 (by decide) ?_
  refine g_callV (rest := [.long (31 * h), .long 31, .long 31, .long 31]) (st1 := [.int (f_X7_setting 0 ω), .long (31 * h), .long 31, .long 31, .long 31]) C (c_X7_setting 0 ω) (cwV 1 C.hts gL_digest_X7_setting rfl rfl rfl md_X7_setting ⟨(Nat.le_of_ble_eq_true rfl), (Nat.le_of_ble_eq_true rfl)⟩) (by decide) (mk_0 (by decide)) rfl rfl rfl rfl rfl (Nat.le_of_ble_eq_true rfl) dL_digest_153 (Nat.le_of_ble_eq_true rfl) (Nat.le_of_ble_eq_true rfl) ?_
  refine g_i2l C dL_digest_156 ?_
  refine g_ladd C dL_digest_157 ?_
  refine g_lmul C dL_digest_158 ?_
  refine g_aload_n C dL_digest_159 rfl 1 rfl ?_
  refine g_iconst (v := 1) C dL_digest_160 (by decide) ?_
  refine g_callV (rest := [.long (31 * ((31 * h) + (f_X7_setting 0 ω).toInt64)), .long 31, .long 31]) (st1 := [.int (f_X7_setting 1 ω), .long (31 * ((31 * h) + (f_X7_setting 0 ω).toInt64)), .long 31, .long 31]) C (c_X7_setting 1 ω) (cwV 1 C.hts gL_digest_X7_setting rfl rfl rfl md_X7_setting ⟨(Nat.le_of_ble_eq_true rfl), (Nat.le_of_ble_eq_true rfl)⟩) (by decide) (mk_0 (by decide)) rfl rfl rfl rfl rfl (Nat.le_of_ble_eq_true rfl) dL_digest_161 (Nat.le_of_ble_eq_true rfl) (Nat.le_of_ble_eq_true rfl) ?_
  refine g_i2l C dL_digest_164 ?_
  refine g_ladd C dL_digest_165 ?_
  refine g_lmul C dL_digest_166 ?_
  refine g_aload_n C dL_digest_167 rfl 1 rfl ?_
  refine g_iconst (v := 2) C dL_digest_168 (by decide) ?_
  refine g_callV (rest := [.long (31 * ((31 * ((31 * h) + (f_X7_setting 0 ω).toInt64)) + (f_X7_setting 1 ω).toInt64)), .long 31]) (st1 := [.int (f_X7_setting 2 ω), .long (31 * ((31 * ((31 * h) + (f_X7_setting 0 ω).toInt64)) + (f_X7_setting 1 ω).toInt64)), .long 31]) C (c_X7_setting 2 ω) (cwV 1 C.hts gL_digest_X7_setting rfl rfl rfl md_X7_setting ⟨(Nat.le_of_ble_eq_true rfl), (Nat.le_of_ble_eq_true rfl)⟩) (by decide) (mk_0 (by decide)) rfl rfl rfl rfl rfl (Nat.le_of_ble_eq_true rfl) dL_digest_169 (Nat.le_of_ble_eq_true rfl) (Nat.le_of_ble_eq_true rfl) ?_
  refine g_i2l C dL_digest_172 ?_
  refine g_ladd C dL_digest_173 ?_
  refine g_lmul C dL_digest_174 ?_
  refine g_aload_n C dL_digest_175 rfl 1 rfl ?_
  refine g_iconst (v := 3) C dL_digest_176 (by decide) ?_
  refine g_callV (rest := [.long (31 * ((31 * ((31 * ((31 * h) + (f_X7_setting 0 ω).toInt64)) + (f_X7_setting 1 ω).toInt64)) + (f_X7_setting 2 ω).toInt64))]) (st1 := [.int (f_X7_setting 3 ω), .long (31 * ((31 * ((31 * ((31 * h) + (f_X7_setting 0 ω).toInt64)) + (f_X7_setting 1 ω).toInt64)) + (f_X7_setting 2 ω).toInt64))]) C (c_X7_setting 3 ω) (cwV 1 C.hts gL_digest_X7_setting rfl rfl rfl md_X7_setting ⟨(Nat.le_of_ble_eq_true rfl), (Nat.le_of_ble_eq_true rfl)⟩) (by decide) (mk_0 (by decide)) rfl rfl rfl rfl rfl (Nat.le_of_ble_eq_true rfl) dL_digest_177 (Nat.le_of_ble_eq_true rfl) (Nat.le_of_ble_eq_true rfl) ?_
  refine g_i2l C dL_digest_180 ?_
  refine g_ladd C dL_digest_181 ?_
  exact g_lret C hret hlk rfl rfl dL_digest_182
