section
variable {p : Program} {l : Launch} {e : Env} {s : State} {m : MethodId} {below : List Frame} {meth : Method} {c : Code} {sa : Nat → Nat} {D : va_G} {X : Nat → ClassId} {ad : Nat → Nat} {b L : Nat} {xs : Nat → Int32} {ω : Mem} {j : Nat} {v w : Int32} {r p0 : Nat → Int32} {n : Nat} {rs : Nat → Nat → Int32}
set_option maxRecDepth 100000 in
set_option maxHeartbeats 4000000 in
theorem t_191 (C : KC p s m b meth c sa D X) {ω1 : Mem} {r1 : Nat → Int32} {n' : Nat} {rs' : Nat → Nat → Int32} {a : Int32} (hr1 : r1 = (actM v w (gm r p0) (sel v)).2 121) (ea : a = (actM v w (gm r p0) (sel v)).1) (ha : ¬ a < 0) (h1 : INV ω1 r1 p0) (q1 : HC ω1 (n' + 1) rs') (hn' : n' ≤ 3) (hrs : rs' n' = r) (hj : JV r) (kk : ∀ (ω : Mem) (r p0 : Nat → Int32) (n : Nat) (rs : Nat → Nat → Int32), INV ω r p0 → HC ω n rs → GV p l e room_1 s m #[Value.ref b] below meth c 120 963 (lw_Z below #[Value.ref b] s) D (LA s) 14 120 ad (mk X ad ω) [(4, .int (nI (j + 1))), (2, .long (DG p0)), (1, .ref (ad 0)), (0, .ref b)] 41 []) : GV p l e room_1 s m #[Value.ref b] below meth c 120 963 (lw_Z below #[Value.ref b] s) D (LA s) 14 120 ad (mk X ad ω1) [(11, .long (DG r1)), (10, .int a), (7, .long (DG r)), (6, .int w), (5, .int v), (4, .int (nI j)), (2, .long (DG p0)), (1, .ref (ad 0)), (0, .ref b)] 191 [] := by
  have hj2 : JV (rs' n') := by rw [hrs]; exact hj
  obtain ⟨u1, u2, u3⟩ := undo_inv h1 q1 hj2
  rw [hrs] at u2
  obtain ⟨ω2, hw2⟩ : ∃ x, (f_X7_undo ω1).2 = x := ⟨_, rfl⟩
  rw [hw2] at u2 u3
  have ha2 : ¬ (actF v w ω2 (sel v)).1 < 0 := by rw [act_ans u2 u3, ← ea]; exact ha
  obtain ⟨n3, rs3, v1, v2, v3, v4, v5⟩ := act_ok u2 u3 ha2
  obtain ⟨ω3, hw3⟩ : ∃ x, (actF v w ω2 (sel v)).2 = x := ⟨_, rfl⟩
  rw [hw3] at v1 v4
  rw [← hr1] at v1
  refine g_aload_n C dL_law_191 rfl 7 rfl ?_
  refine g_bipush (v := 13) C dL_law_192 (by decide) ?_
  refine g_callV (rest := []) (st1 := [.int (nI (n' + 1))]) C (c_cnt (w := 13) q1.2.2.1) (cwV 1 C.hts gL_law_X7_count rfl rfl rfl md_X7_count ⟨(Nat.le_of_ble_eq_true rfl), (Nat.le_of_ble_eq_true rfl)⟩) (by decide) (mk_0 (by decide)) rfl rfl rfl rfl rfl (Nat.le_of_ble_eq_true rfl) dL_law_194 (Nat.le_of_ble_eq_true rfl) (Nat.le_of_ble_eq_true rfl) ?_
  refine g_iconst (v := 1) C dL_law_197 (by decide) ?_
  refine g_isub (v := (nI n')) C dL_law_198 (pk_sub (a := n' + 1) (b := 1) (by omega)) ?_
  refine g_istore (lv' := [(13, .int (nI n')), (11, .long (DG r1)), (10, .int a), (7, .long (DG r)), (6, .int w), (5, .int v), (4, .int (nI j)), (2, .long (DG p0)), (1, .ref (ad 0)), (0, .ref b)]) C dL_law_199 (by decide) rfl ?_
  refine g_aload_n C dL_law_201 rfl 8 rfl ?_
  refine g_callV (rest := []) (st1 := [.int (nI n')]) C (c_und (h1.lw q1).hst u1 hw2) (cwV 0 C.hts gL_law_X7_undo rfl rfl rfl md_X7_undo ⟨(Nat.le_of_ble_eq_true rfl), (Nat.le_of_ble_eq_true rfl)⟩) (by decide) (mk_0 (by decide)) rfl rfl rfl rfl rfl (Nat.le_of_ble_eq_true rfl) dL_law_202 (Nat.le_of_ble_eq_true rfl) (Nat.le_of_ble_eq_true rfl) ?_
  refine g_iload C dL_law_205 0 rfl ?_
  refine g_icmp_ne (tgt := 243) C dL_law_207 (by decide) (fun z => absurd rfl z) (fun _ => ?_)
  refine g_aload_n C dL_law_210 rfl 8 rfl ?_
  refine g_callS (rest := []) (st1 := [.long (DG r)]) C (c_dig (dig_inv u2 u3)) (va_cwS 1 C.hts gL_law_L_digest rfl rfl rfl md_L_digest.2 ⟨(Nat.le_of_ble_eq_true rfl), (Nat.le_of_ble_eq_true rfl)⟩) rfl rfl rfl (Nat.le_of_ble_eq_true rfl) dL_law_211 (Nat.le_of_ble_eq_true rfl) (Nat.le_of_ble_eq_true rfl) ?_
  refine g_lload C dL_law_214 3 rfl ?_
  refine g_lcmp C dL_law_216 ?_
  refine g_if_ne (tgt := 243) C dL_law_217 (by decide) (fun z => absurd (cmp_eq rfl) z) (fun _ => ?_)
  refine g_aload_n C dL_law_220 rfl 8 rfl ?_
  refine g_iload C dL_law_221 5 rfl ?_
  refine g_iload C dL_law_223 4 rfl ?_
  refine g_callS (rest := []) (st1 := [.int a]) C (c_act (u2.lw u3).hst rfl ((act_ans u2 u3).trans ea.symm) hw3) (va_cwS 3 C.hts gL_law_L_act rfl rfl rfl md_L_act.2 ⟨(Nat.le_of_ble_eq_true rfl), (Nat.le_of_ble_eq_true rfl)⟩) rfl rfl rfl (Nat.le_of_ble_eq_true rfl) dL_law_225 (Nat.le_of_ble_eq_true rfl) (Nat.le_of_ble_eq_true rfl) ?_
  refine g_iload C dL_law_228 2 rfl ?_
  refine g_icmp_ne (tgt := 243) C dL_law_230 (by decide) (fun z => absurd rfl z) (fun _ => ?_)
  refine g_aload_n C dL_law_233 rfl 8 rfl ?_
  refine g_callS (rest := []) (st1 := [.long (DG r1)]) C (c_dig (dig_inv v1 v4)) (va_cwS 1 C.hts gL_law_L_digest rfl rfl rfl md_L_digest.2 ⟨(Nat.le_of_ble_eq_true rfl), (Nat.le_of_ble_eq_true rfl)⟩) rfl rfl rfl (Nat.le_of_ble_eq_true rfl) dL_law_234 (Nat.le_of_ble_eq_true rfl) (Nat.le_of_ble_eq_true rfl) ?_
  refine g_lload C dL_law_237 1 rfl ?_
  refine g_lcmp C dL_law_239 ?_
  refine g_if_eq (tgt := 245) C dL_law_240 (by decide) (fun _ => ?_) (fun z => absurd (cmp_eq rfl) z)
  refine gv_lv (lv' := [(11, .long (DG r1)), (6, .int w), (5, .int v), (4, .int (nI j)), (2, .long (DG p0)), (1, .ref (ad 0)), (0, .ref b)]) [1, 4, 5, 6, 7, 8, 9] rfl ?_
  exact t_245 C v1 v4 kk
set_option maxRecDepth 100000 in
set_option maxHeartbeats 4000000 in
theorem t_152 (C : KC p s m b meth c sa D X) {ω1 : Mem} {r1 : Nat → Int32} {n' : Nat} {rs' : Nat → Nat → Int32} {a : Int32} (hr1 : r1 = (actM v w (gm r p0) (sel v)).2 121) (ea : a = (actM v w (gm r p0) (sel v)).1) (ha : ¬ a < 0) (h1 : INV ω1 r1 p0) (q1 : HC ω1 (n' + 1) rs') (hn' : n' ≤ 3) (hrs : rs' n' = r) (hj : JV r) (hres : v &&& 15 = 11 → DG r1 = DG p0) (kk : ∀ (ω : Mem) (r p0 : Nat → Int32) (n : Nat) (rs : Nat → Nat → Int32), INV ω r p0 → HC ω n rs → GV p l e room_1 s m #[Value.ref b] below meth c 120 963 (lw_Z below #[Value.ref b] s) D (LA s) 14 120 ad (mk X ad ω) [(4, .int (nI (j + 1))), (2, .long (DG p0)), (1, .ref (ad 0)), (0, .ref b)] 41 []) : GV p l e room_1 s m #[Value.ref b] below meth c 120 963 (lw_Z below #[Value.ref b] s) D (LA s) 14 120 ad (mk X ad ω1) [(11, .long (DG r1)), (10, .int a), (7, .long (DG r)), (6, .int w), (5, .int v), (4, .int (nI j)), (2, .long (DG p0)), (1, .ref (ad 0)), (0, .ref b)] 152 [] := by
  refine g_iload C dL_law_152 1 rfl ?_
  refine g_if_lt (tgt := 176) C dL_law_154 (by decide) (fun z => absurd z ha) (fun _ => ?_)
  refine g_iload C dL_law_157 4 rfl ?_
  refine g_bipush (v := 15) C dL_law_159 (by decide) ?_
  refine g_iand (v := (v &&& 15)) C dL_law_161 rfl ?_
  refine g_bipush (v := 11) C dL_law_162 (by decide) ?_
  refine g_icmp_ne (tgt := 176) C dL_law_164 (by decide) (fun h9 => ?_) (fun h9 => ?_)
  · refine g_iload C dL_law_176 1 rfl ?_
    refine g_if_lt (tgt := 245) C dL_law_178 (by decide) (fun z => absurd z ha) (fun _ => ?_)
    refine g_iload C dL_law_181 4 rfl ?_
    refine g_bipush (v := 8) C dL_law_183 (by decide) ?_
    refine g_ishr (v := (v >>> ((8 : Int32) &&& 31))) C dL_law_185 rfl ?_
    refine g_iconst (v := 1) C dL_law_186 (by decide) ?_
    refine g_iand (v := ((v >>> ((8 : Int32) &&& 31)) &&& 1)) C dL_law_187 rfl ?_
    refine g_if_ne (tgt := 245) C dL_law_188 (by decide) (fun h8 => ?_) (fun h8 => ?_)
    · refine gv_lv (lv' := [(11, .long (DG r1)), (6, .int w), (5, .int v), (4, .int (nI j)), (2, .long (DG p0)), (1, .ref (ad 0)), (0, .ref b)]) [0, 3, 4, 5, 6, 7, 8] rfl ?_
      exact t_245 C h1 q1 kk
    · exact t_191 C hr1 ea ha h1 q1 hn' hrs hj kk
  · refine g_lload C dL_law_167 0 rfl ?_
    refine g_lload_n C dL_law_169 rfl 6 rfl ?_
    refine g_lcmp C dL_law_170 ?_
    refine g_if_eq (tgt := 176) C dL_law_171 (by decide) (fun _ => ?_) (fun z => absurd (cmp_eq (hres h9)) z)
    refine g_iload C dL_law_176 1 rfl ?_
    refine g_if_lt (tgt := 245) C dL_law_178 (by decide) (fun z => absurd z ha) (fun _ => ?_)
    refine g_iload C dL_law_181 4 rfl ?_
    refine g_bipush (v := 8) C dL_law_183 (by decide) ?_
    refine g_ishr (v := (v >>> ((8 : Int32) &&& 31))) C dL_law_185 rfl ?_
    refine g_iconst (v := 1) C dL_law_186 (by decide) ?_
    refine g_iand (v := ((v >>> ((8 : Int32) &&& 31)) &&& 1)) C dL_law_187 rfl ?_
    refine g_if_ne (tgt := 245) C dL_law_188 (by decide) (fun h8 => ?_) (fun h8 => ?_)
    · refine gv_lv (lv' := [(11, .long (DG r1)), (6, .int w), (5, .int v), (4, .int (nI j)), (2, .long (DG p0)), (1, .ref (ad 0)), (0, .ref b)]) [0, 3, 4, 5, 6, 7, 8] rfl ?_
      exact t_245 C h1 q1 kk
    · exact t_191 C hr1 ea ha h1 q1 hn' hrs hj kk
theorem nlt_of_le {x : Int32} (h : 0 ≤ x) : ¬ x < 0 := Int32.not_lt.mpr h
theorem le_of_nlt {x : Int32} (h : ¬ x < 0) : 0 ≤ x := Int32.not_lt.mp h
set_option maxRecDepth 100000 in
set_option maxHeartbeats 4000000 in
theorem t_70 (C : KC p s m b meth c sa D X) (h : INV ω r p0) (q : HC ω n rs) (kk : ∀ (ω : Mem) (r p0 : Nat → Int32) (n : Nat) (rs : Nat → Nat → Int32), INV ω r p0 → HC ω n rs → GV p l e room_1 s m #[Value.ref b] below meth c 120 963 (lw_Z below #[Value.ref b] s) D (LA s) 14 120 ad (mk X ad ω) [(4, .int (nI (j + 1))), (2, .long (DG p0)), (1, .ref (ad 0)), (0, .ref b)] 41 []) : GV p l e room_1 s m #[Value.ref b] below meth c 120 963 (lw_Z below #[Value.ref b] s) D (LA s) 14 120 ad (mk X ad ω) [(6, .int w), (5, .int v), (4, .int (nI j)), (2, .long (DG p0)), (1, .ref (ad 0)), (0, .ref b)] 70 [] := by
  obtain ⟨a, hx⟩ : ∃ x, (actF v w ω (sel v)).1 = x := ⟨_, rfl⟩
  obtain ⟨ω1, hw⟩ : ∃ x, (actF v w ω (sel v)).2 = x := ⟨_, rfl⟩
  refine g_aload_n C dL_law_70 rfl 4 rfl ?_
  refine g_callS (rest := []) (st1 := [.long (DG r)]) C (c_dig (dig_inv h q)) (va_cwS 1 C.hts gL_law_L_digest rfl rfl rfl md_L_digest.2 ⟨(Nat.le_of_ble_eq_true rfl), (Nat.le_of_ble_eq_true rfl)⟩) rfl rfl rfl (Nat.le_of_ble_eq_true rfl) dL_law_71 (Nat.le_of_ble_eq_true rfl) (Nat.le_of_ble_eq_true rfl) ?_
  refine g_lstore (lv' := [(7, .long (DG r)), (6, .int w), (5, .int v), (4, .int (nI j)), (2, .long (DG p0)), (1, .ref (ad 0)), (0, .ref b)]) C dL_law_74 (by decide) rfl ?_
  refine g_aload_n C dL_law_76 rfl 5 rfl ?_
  refine g_bipush (v := 13) C dL_law_77 (by decide) ?_
  refine g_callV (rest := []) (st1 := [.int (nI n)]) C (c_cnt (w := 13) q.2.2.1) (cwV 1 C.hts gL_law_X7_count rfl rfl rfl md_X7_count ⟨(Nat.le_of_ble_eq_true rfl), (Nat.le_of_ble_eq_true rfl)⟩) (by decide) (mk_0 (by decide)) rfl rfl rfl rfl rfl (Nat.le_of_ble_eq_true rfl) dL_law_79 (Nat.le_of_ble_eq_true rfl) (Nat.le_of_ble_eq_true rfl) ?_
  refine g_istore (lv' := [(9, .int (nI n)), (7, .long (DG r)), (6, .int w), (5, .int v), (4, .int (nI j)), (2, .long (DG p0)), (1, .ref (ad 0)), (0, .ref b)]) C dL_law_82 (by decide) rfl ?_
  refine g_aload_n C dL_law_84 rfl 6 rfl ?_
  refine g_iload C dL_law_85 3 rfl ?_
  refine g_iload C dL_law_87 2 rfl ?_
  refine g_callS (rest := []) (st1 := [.int a]) C (c_act (h.lw q).hst rfl hx hw) (va_cwS 3 C.hts gL_law_L_act rfl rfl rfl md_L_act.2 ⟨(Nat.le_of_ble_eq_true rfl), (Nat.le_of_ble_eq_true rfl)⟩) rfl rfl rfl (Nat.le_of_ble_eq_true rfl) dL_law_89 (Nat.le_of_ble_eq_true rfl) (Nat.le_of_ble_eq_true rfl) ?_
  refine g_istore (lv' := [(10, .int a), (9, .int (nI n)), (7, .long (DG r)), (6, .int w), (5, .int v), (4, .int (nI j)), (2, .long (DG p0)), (1, .ref (ad 0)), (0, .ref b)]) C dL_law_92 (by decide) rfl ?_
  refine g_aload_n C dL_law_94 rfl 7 rfl ?_
  by_cases ha : a < 0
  · have e := act_no (v := v) (w := w) h q (k := sel v) (by rw [hx]; exact ha)
    rw [hw] at e
    subst e
    refine g_callS (rest := []) (st1 := [.long (DG r)]) C (c_dig (dig_inv h q)) (va_cwS 1 C.hts gL_law_L_digest rfl rfl rfl md_L_digest.2 ⟨(Nat.le_of_ble_eq_true rfl), (Nat.le_of_ble_eq_true rfl)⟩) rfl rfl rfl (Nat.le_of_ble_eq_true rfl) dL_law_95 (Nat.le_of_ble_eq_true rfl) (Nat.le_of_ble_eq_true rfl) ?_
    refine g_lstore (lv' := [(11, .long (DG r)), (10, .int a), (9, .int (nI n)), (7, .long (DG r)), (6, .int w), (5, .int v), (4, .int (nI j)), (2, .long (DG p0)), (1, .ref (ad 0)), (0, .ref b)]) C dL_law_98 (by decide) rfl ?_
    refine g_iload C dL_law_100 1 rfl ?_
    refine g_if_ge (tgt := 127) C dL_law_102 (by decide) (fun z => absurd ha (nlt_of_le z)) (fun _ => ?_)
    refine g_lload C dL_law_105 0 rfl ?_
    refine g_lload C dL_law_107 3 rfl ?_
    refine g_lcmp C dL_law_109 ?_
    refine g_if_ne (tgt := 150) C dL_law_110 (by decide) (fun z => absurd (cmp_eq rfl) z) (fun _ => ?_)
    refine g_aload_n C dL_law_113 rfl 8 rfl ?_
    refine g_bipush (v := 13) C dL_law_114 (by decide) ?_
    refine g_callV (rest := []) (st1 := [.int (nI n)]) C (c_cnt (w := 13) q.2.2.1) (cwV 1 C.hts gL_law_X7_count rfl rfl rfl md_X7_count ⟨(Nat.le_of_ble_eq_true rfl), (Nat.le_of_ble_eq_true rfl)⟩) (by decide) (mk_0 (by decide)) rfl rfl rfl rfl rfl (Nat.le_of_ble_eq_true rfl) dL_law_116 (Nat.le_of_ble_eq_true rfl) (Nat.le_of_ble_eq_true rfl) ?_
    refine g_iload C dL_law_119 2 rfl ?_
    refine g_icmp_eq (tgt := 152) C dL_law_121 (by decide) (fun _ => ?_) (fun z => absurd rfl z)
    refine g_iload C dL_law_152 1 rfl ?_
    refine g_if_lt (tgt := 176) C dL_law_154 (by decide) (fun _ => ?_) (fun z => absurd ha z)
    refine g_iload C dL_law_176 1 rfl ?_
    refine g_if_lt (tgt := 245) C dL_law_178 (by decide) (fun _ => ?_) (fun z => absurd ha z)
    refine gv_lv (lv' := [(11, .long (DG r)), (6, .int w), (5, .int v), (4, .int (nI j)), (2, .long (DG p0)), (1, .ref (ad 0)), (0, .ref b)]) [0, 4, 5, 6, 7, 8, 9] rfl ?_
    exact t_245 C h q kk
  · obtain ⟨n', rs', h1, hn, hn', q1, hrs⟩ := act_ok (v := v) (w := w) h q (k := sel v) (by rw [hx]; exact ha)
    obtain ⟨r1, hr1⟩ : ∃ x, x = (actM v w (gm r p0) (sel v)).2 121 := ⟨_, rfl⟩
    rw [← hr1, hw] at h1
    rw [hw] at q1
    have ea : a = (actM v w (gm r p0) (sel v)).1 := hx.symm.trans (act_ans h q)
    have hres : v &&& 15 = 11 → DG r1 = DG p0 := fun e => by
      have es : sel v = 11 := by unfold sel; rw [e]; rfl
      rw [es] at hw
      have s1 : SX 1 ω1 p0 := by
        rw [← hw]
        exact (restore_at (h.lw q) h.bs h.2.1 h.2.2.2.1).2
      exact (dig_inv h1 q1).symm.trans (dig_inv (h1.mv s1 h.2.2.2.1 (fun _ _ => rfl)) q1)
    refine g_callS (rest := []) (st1 := [.long (DG r1)]) C (c_dig (dig_inv h1 q1)) (va_cwS 1 C.hts gL_law_L_digest rfl rfl rfl md_L_digest.2 ⟨(Nat.le_of_ble_eq_true rfl), (Nat.le_of_ble_eq_true rfl)⟩) rfl rfl rfl (Nat.le_of_ble_eq_true rfl) dL_law_95 (Nat.le_of_ble_eq_true rfl) (Nat.le_of_ble_eq_true rfl) ?_
    refine g_lstore (lv' := [(11, .long (DG r1)), (10, .int a), (9, .int (nI n)), (7, .long (DG r)), (6, .int w), (5, .int v), (4, .int (nI j)), (2, .long (DG p0)), (1, .ref (ad 0)), (0, .ref b)]) C dL_law_98 (by decide) rfl ?_
    refine g_iload C dL_law_100 1 rfl ?_
    refine g_if_ge (tgt := 127) C dL_law_102 (by decide) (fun _ => ?_) (fun z => absurd (le_of_nlt ha) z)
    refine g_aload_n C dL_law_127 rfl 8 rfl ?_
    refine g_bipush (v := 13) C dL_law_128 (by decide) ?_
    refine g_callV (rest := []) (st1 := [.int (nI (n' + 1))]) C (c_cnt (w := 13) q1.2.2.1) (cwV 1 C.hts gL_law_X7_count rfl rfl rfl md_X7_count ⟨(Nat.le_of_ble_eq_true rfl), (Nat.le_of_ble_eq_true rfl)⟩) (by decide) (mk_0 (by decide)) rfl rfl rfl rfl rfl (Nat.le_of_ble_eq_true rfl) dL_law_130 (Nat.le_of_ble_eq_true rfl) (Nat.le_of_ble_eq_true rfl) ?_
    refine g_iload C dL_law_133 2 rfl ?_
    refine g_iconst (v := (nI 4)) C dL_law_135 (by decide) ?_
    by_cases h4 : n = 4
    · refine g_icmp_ge (tgt := 146) C dL_law_136 (by decide) (fun _ => ?_) (fun z => absurd (nI_le (a := 4) (b := n) (by omega) (by omega)) z)
      refine g_iconst (v := (nI 4)) C dL_law_146 (by decide) ?_
      refine g_icmp_eq (tgt := 152) C dL_law_147 (by decide) (fun _ => ?_) (fun z => absurd (show nI (n' + 1) = nI 4 by congr 1; omega) z)
      refine gv_lv (lv' := [(11, .long (DG r1)), (10, .int a), (7, .long (DG r)), (6, .int w), (5, .int v), (4, .int (nI j)), (2, .long (DG p0)), (1, .ref (ad 0)), (0, .ref b)]) [0, 1, 3, 4, 5, 6, 7, 8, 9] rfl ?_
      exact t_152 C hr1 ea ha h1 q1 hn' hrs h.2.2.1 hres kk
    · refine g_icmp_ge (tgt := 146) C dL_law_136 (by decide) (fun z => absurd z (nI_ge (a := n) (b := 4) (by have := q.2.2.2.1; omega) (by decide))) (fun _ => ?_)
      refine g_iload C dL_law_139 2 rfl ?_
      refine g_iconst (v := 1) C dL_law_141 (by decide) ?_
      refine g_iadd (v := (nI (n + 1))) C dL_law_142 (nI_1 n) ?_
      refine g_goto (tgt := 147) C dL_law_143 (by decide) ?_
      refine g_icmp_eq (tgt := 152) C dL_law_147 (by decide) (fun _ => ?_) (fun z => absurd (show nI (n' + 1) = nI (n + 1) by congr 1; omega) z)
      refine gv_lv (lv' := [(11, .long (DG r1)), (10, .int a), (7, .long (DG r)), (6, .int w), (5, .int v), (4, .int (nI j)), (2, .long (DG p0)), (1, .ref (ad 0)), (0, .ref b)]) [0, 1, 3, 4, 5, 6, 7, 8, 9] rfl ?_
      exact t_152 C hr1 ea ha h1 q1 hn' hrs h.2.2.1 hres kk
set_option maxRecDepth 100000 in
set_option maxHeartbeats 4000000 in
theorem t_41 (C : KC p s m b meth c sa D X) (K : KX s (LA s) b L xs) (hL : L ≤ 260) (hj : j < 30) (h : INV ω r p0) (q : HC ω n rs) (kk : ∀ (ω : Mem) (r p0 : Nat → Int32) (n : Nat) (rs : Nat → Nat → Int32), INV ω r p0 → HC ω n rs → GV p l e room_1 s m #[Value.ref b] below meth c 120 963 (lw_Z below #[Value.ref b] s) D (LA s) 14 120 ad (mk X ad ω) [(4, .int (nI (j + 1))), (2, .long (DG p0)), (1, .ref (ad 0)), (0, .ref b)] 41 []) : GV p l e room_1 s m #[Value.ref b] below meth c 120 963 (lw_Z below #[Value.ref b] s) D (LA s) 14 120 ad (mk X ad ω) [(4, .int (nI j)), (2, .long (DG p0)), (1, .ref (ad 0)), (0, .ref b)] 41 [] := by
  refine g_iload C dL_law_41 0 rfl ?_
  refine g_bipush (v := (nI 30)) C dL_law_43 (by decide) ?_
  refine g_icmp_ge (tgt := 339) C dL_law_45 (by decide) (fun z => absurd z (nI_ge (a := j) (b := 30) hj (by decide))) (fun _ => ?_)
  refine g_aload_n C dL_law_48 rfl 3 rfl ?_
  refine g_iconst (v := (nI 2)) C dL_law_49 (by decide) ?_
  refine g_iload C dL_law_50 0 rfl ?_
  refine g_imul (v := (nI (2 * j))) C dL_law_52 (pk_mul 2 j) ?_
  refine g_callSX (rest := []) (st1 := [.int (cellF L xs (2 * j))]) C K (c_L_cell (2 * j) (by omega) hL (mk X ad ω)) (va_cwS 2 C.hts gL_law_L_cell rfl rfl rfl md_L_cell.2 ⟨(Nat.le_of_ble_eq_true rfl), (Nat.le_of_ble_eq_true rfl)⟩) rfl rfl rfl (Nat.le_of_ble_eq_true rfl) dL_law_53 (Nat.le_of_ble_eq_true rfl) (Nat.le_of_ble_eq_true rfl) ?_
  refine g_istore (lv' := [(5, .int (cellF L xs (2 * j))), (4, .int (nI j)), (2, .long (DG p0)), (1, .ref (ad 0)), (0, .ref b)]) C dL_law_56 (by decide) rfl ?_
  refine g_aload_n C dL_law_58 rfl 4 rfl ?_
  refine g_iconst (v := (nI 2)) C dL_law_59 (by decide) ?_
  refine g_iload C dL_law_60 1 rfl ?_
  refine g_imul (v := (nI (2 * j))) C dL_law_62 (pk_mul 2 j) ?_
  refine g_iconst (v := 1) C dL_law_63 (by decide) ?_
  refine g_iadd (v := (nI (2 * j + 1))) C dL_law_64 (nI_1 (2 * j)) ?_
  refine g_callSX (rest := []) (st1 := [.int (cellF L xs (2 * j + 1))]) C K (c_L_cell (2 * j + 1) (by omega) hL (mk X ad ω)) (va_cwS 2 C.hts gL_law_L_cell rfl rfl rfl md_L_cell.2 ⟨(Nat.le_of_ble_eq_true rfl), (Nat.le_of_ble_eq_true rfl)⟩) rfl rfl rfl (Nat.le_of_ble_eq_true rfl) dL_law_65 (Nat.le_of_ble_eq_true rfl) (Nat.le_of_ble_eq_true rfl) ?_
  refine g_istore (lv' := [(6, .int (cellF L xs (2 * j + 1))), (5, .int (cellF L xs (2 * j))), (4, .int (nI j)), (2, .long (DG p0)), (1, .ref (ad 0)), (0, .ref b)]) C dL_law_68 (by decide) rfl ?_
  exact t_70 C h q kk
set_option maxRecDepth 100000 in
set_option maxHeartbeats 4000000 in
theorem t_loop (C : KC p s m b meth c sa D X) (K : KX s (LA s) b L xs) (hL : L ≤ 260) (hr : meth.sig.returnType = ret) (hlk : meth.locks = false) : ∀ (i j : Nat), j + i = 30 → ∀ (ω : Mem) (r p0 : Nat → Int32) (n : Nat) (rs : Nat → Nat → Int32), INV ω r p0 → HC ω n rs → GV p l e room_1 s m #[Value.ref b] below meth c 120 963 (lw_Z below #[Value.ref b] s) D (LA s) 14 120 ad (mk X ad ω) [(4, .int (nI j)), (2, .long (DG p0)), (1, .ref (ad 0)), (0, .ref b)] 41 [] := by
  intro i
  induction i with
  | zero =>
    intro j hj ω r p0 n rs h q
    refine g_iload C dL_law_41 0 rfl ?_
    refine g_bipush (v := (nI 30)) C dL_law_43 (by decide) ?_
    refine g_icmp_ge (tgt := 339) C dL_law_45 (by decide) (fun _ => ?_) (fun z => absurd (nI_le (a := 30) (b := j) (by omega) (by omega)) z)
    refine g_iconst (v := 1) C dL_law_339 (by decide) ?_
    exact g_lend C hr hlk dL_law_340
  | succ i ih =>
    intro j hj ω r p0 n rs h q
    exact t_41 C K hL (by omega) h q (fun ω r p0 n rs h q => ih (j + 1) (by omega) ω r p0 n rs h q)
end
