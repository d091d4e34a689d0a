abbrev KC (p : Program) (s : State) (m : MethodId) (b : Nat) (meth : Method) (c : Code) (sa : Nat → Nat) (D : va_G) (X : Nat → ClassId) : Prop := GC p room_1 s m #[Value.ref b] meth c code 14 wsL_law RL sa D (tyX X) (LA s)
theorem c_dig {l_ : Launch} {sa : Nat → Nat} {D : va_G} {X : Nat → ClassId} {ad : Nat → Nat} {ω : Mem} {v : Int64} (e : dig ω = v) : CT l_ yL_digest wsL_digest rm_L_digest sa D (tyX X) 120 ad (mk X ad ω) [.ref (ad 0)] (some (.long v) : Option Value) (mk X ad ω) := by
  rw [← e]; exact c_L_digest ω
theorem c_act {l_ : Launch} {sa : Nat → Nat} {D : va_G} {X : Nat → ClassId} {ad : Nat → Nat} {v w a : Int32} {k : Nat} {ω ω' : Mem} (hst : hstP ω) (ek : sel v = k) (e : (actF v w ω k).1 = a) (e2 : (actF v w ω k).2 = ω') : CT l_ yL_act wsL_act rm_L_act sa D (tyX X) 120 ad (mk X ad ω) [.ref (ad 0), .int v, .int w] (some (.int a) : Option Value) (mk X ad ω') := by
  rw [← e, ← e2, ← ek]; exact c_L_act v w ω hst
theorem c_clr {l_ : Launch} {sa : Nat → Nat} {D : va_G} {X : Nat → ClassId} {ad : Nat → Nat} {ω ω' : Mem} {r : Int32} (r1 : (f_X7_clearIn ω).1 = r) (e : (f_X7_clearIn ω).2 = ω') : CT l_ yX7_clearIn wsX7_clearIn rm_X7_clearIn sa D (tyX X) 120 ad (mk X ad ω) [.ref (ad 0)] (some (.int r) : Option Value) (mk X ad ω') := by
  rw [← e, ← r1]; exact c_X7_clearIn ω
theorem c_kep {l_ : Launch} {sa : Nat → Nat} {D : va_G} {X : Nat → ClassId} {ad : Nat → Nat} {ω ω' : Mem} {r : Int32} (r1 : (f_X7_keep ω).1 = r) (e : (f_X7_keep ω).2 = ω') : CT l_ yX7_keep wsX7_keep rm_X7_keep sa D (tyX X) 120 ad (mk X ad ω) [.ref (ad 0)] (some (.int r) : Option Value) (mk X ad ω') := by
  rw [← e, ← r1]; exact c_X7_keep ω
section
variable {p : Program} {l : Launch} {e : Env} {s : State} {m : MethodId} {below : List Frame} {meth : Method} {c : Code} {sa : Nat → Nat} {D : va_G} {X : Nat → ClassId} {ad : Nat → Nat} {b L : Nat} {xs : Nat → Int32} {ω : Mem} {j : Nat} {v w : Int32} {r p0 : Nat → Int32} {n : Nat} {rs : Nat → Nat → Int32}
theorem g_lend (C : KC p s m b meth c sa D X) (hr : meth.sig.returnType = ret) (hlk : meth.locks = false) {lv : List (Nat × Value)} {pc : Nat} (hdg : decode code pc = .ok (.ireturn, 1)) : GV p l e room_1 s m #[Value.ref b] below meth c 120 963 (lw_Z below #[Value.ref b] s) D (LA s) 14 120 ad (mk X ad ω) lv pc [.int 1] := by
  intro H locs ls hP hD hS hl
  refine va_forget (fun q hq => hS.2.2 q hq) ?_
  exact W.widen (Nat.le_of_ble_eq_true rfl) (Nat.le_of_ble_eq_true rfl) (lw_ret C.hx C.hb hr hlk hdg)
set_option maxRecDepth 100000 in
set_option maxHeartbeats 4000000 in
theorem t_292 (C : KC p s m b meth c sa D X) (h : INV ω r p0) (q : HC ω n rs) (kk : ∀ (ω : Mem) (r p0 : Nat → Int32) (n : Nat) (rs : Nat → Nat → Int32), INV ω r p0 → HC ω n rs → GV p l e room_1 s m #[Value.ref b] below meth c 120 963 (lw_Z below #[Value.ref b] s) D (LA s) 14 120 ad (mk X ad ω) [(4, .int (nI (j + 1))), (2, .long (DG p0)), (1, .ref (ad 0)), (0, .ref b)] 41 []) : GV p l e room_1 s m #[Value.ref b] below meth c 120 963 (lw_Z below #[Value.ref b] s) D (LA s) 14 120 ad (mk X ad ω) [(11, .long (DG r)), (6, .int w), (5, .int v), (4, .int (nI j)), (2, .long (DG p0)), (1, .ref (ad 0)), (0, .ref b)] 292 [] := by
  obtain ⟨c1, c2, c3⟩ := clear_inv h q
  obtain ⟨x, hx⟩ : ∃ x, (f_X7_clearIn ω).1 = x := ⟨_, rfl⟩
  obtain ⟨ω1, hw⟩ : ∃ x, (f_X7_clearIn ω).2 = x := ⟨_, rfl⟩
  rw [hx] at c1
  rw [hw] at c2 c3
  obtain ⟨d1, d2⟩ := keep_inv c2 c3
  obtain ⟨x2, hx2⟩ : ∃ x, (f_X7_keep ω1).1 = x := ⟨_, rfl⟩
  obtain ⟨ω2, hw2⟩ : ∃ x, (f_X7_keep ω1).2 = x := ⟨_, rfl⟩
  rw [hw2] at d1 d2
  refine g_aload_n C dL_law_292 rfl 5 rfl ?_
  refine g_callV (rest := []) (st1 := [.int x]) C (c_clr (r := x) hx hw) (cwV 0 C.hts gL_law_X7_clearIn rfl rfl rfl md_X7_clearIn ⟨(Nat.le_of_ble_eq_true rfl), (Nat.le_of_ble_eq_true rfl)⟩) (by decide) (mk_0 (by decide)) rfl rfl rfl rfl rfl (Nat.le_of_ble_eq_true rfl) dL_law_293 (Nat.le_of_ble_eq_true rfl) (Nat.le_of_ble_eq_true rfl) ?_
  refine g_sipush (v := 500) C dL_law_296 (by decide) ?_
  refine g_icmp_gt (tgt := 312) C dL_law_299 (by decide) (fun z => absurd z c1) (fun _ => ?_)
  refine g_aload_n C dL_law_302 rfl 5 rfl ?_
  refine g_callS (rest := []) (st1 := [.long (DG r)]) C (c_dig (dig_inv c2 c3)) (va_cwS 1 C.hts gL_law_L_digest rfl rfl rfl md_L_digest.2 ⟨(Nat.le_of_ble_eq_true rfl), (Nat.le_of_ble_eq_true rfl)⟩) rfl rfl rfl (Nat.le_of_ble_eq_true rfl) dL_law_303 (Nat.le_of_ble_eq_true rfl) (Nat.le_of_ble_eq_true rfl) ?_
  refine g_lload C dL_law_306 0 rfl ?_
  refine g_lcmp C dL_law_308 ?_
  refine g_if_eq (tgt := 314) C dL_law_309 (by decide) (fun _ => ?_) (fun z => absurd (cmp_eq rfl) z)
  refine g_iload C dL_law_314 2 rfl ?_
  refine g_bipush (v := 11) C dL_law_316 (by decide) ?_
  refine g_ishr (v := (v >>> ((11 : Int32) &&& 31))) C dL_law_318 rfl ?_
  refine g_bipush (v := 7) C dL_law_319 (by decide) ?_
  refine g_iand (v := ((v >>> ((11 : Int32) &&& 31)) &&& 7)) C dL_law_321 rfl ?_
  refine g_if_ne (tgt := 333) C dL_law_322 (by decide) (fun h9 => ?_) (fun h9 => ?_)
  · refine g_iinc (k := 3) (v := (nI (j + 1))) (lv' := [(4, .int (nI (j + 1))), (11, .long (DG r)), (6, .int w), (5, .int v), (2, .long (DG p0)), (1, .ref (ad 0)), (0, .ref b)]) C dL_law_333 rfl (nI_1 j) (by decide) rfl ?_
    refine g_goto (tgt := 41) C dL_law_336 (by decide) ?_
    refine gv_lv (lv' := [(4, .int (nI (j + 1))), (2, .long (DG p0)), (1, .ref (ad 0)), (0, .ref b)]) [0, 4, 5, 6] rfl ?_
    exact kk _ _ _ _ _ c2 c3
  · refine g_aload_n C dL_law_325 rfl 5 rfl ?_
    refine g_callV (rest := []) (st1 := [.int x2]) C (c_kep (r := x2) hx2 hw2) (cwV 0 C.hts gL_law_X7_keep rfl rfl rfl md_X7_keep ⟨(Nat.le_of_ble_eq_true rfl), (Nat.le_of_ble_eq_true rfl)⟩) (by decide) (mk_0 (by decide)) rfl rfl rfl rfl rfl (Nat.le_of_ble_eq_true rfl) dL_law_326 (Nat.le_of_ble_eq_true rfl) (Nat.le_of_ble_eq_true rfl) ?_
    refine g_pop C dL_law_329 rfl ?_
    refine g_lload C dL_law_330 0 rfl ?_
    refine g_lstore_n (lv' := [(2, .long (DG r)), (11, .long (DG r)), (6, .int w), (5, .int v), (4, .int (nI j)), (1, .ref (ad 0)), (0, .ref b)]) C dL_law_332 rfl (by decide) rfl ?_
    refine g_iinc (k := 4) (v := (nI (j + 1))) (lv' := [(4, .int (nI (j + 1))), (2, .long (DG r)), (11, .long (DG r)), (6, .int w), (5, .int v), (1, .ref (ad 0)), (0, .ref b)]) C dL_law_333 rfl (nI_1 j) (by decide) rfl ?_
    refine g_goto (tgt := 41) C dL_law_336 (by decide) ?_
    refine gv_lv (lv' := [(4, .int (nI (j + 1))), (2, .long (DG r)), (1, .ref (ad 0)), (0, .ref b)]) [0, 1, 5, 6] rfl ?_
    exact kk _ _ _ _ _ d1 d2
set_option maxRecDepth 100000 in
set_option maxHeartbeats 4000000 in
theorem t_245 (C : KC p s m b meth c sa D X) (h : INV ω r p0) (q : HC ω n rs) (kk : ∀ (ω : Mem) (r p0 : Nat → Int32) (n : Nat) (rs : Nat → Nat → Int32), INV ω r p0 → HC ω n rs → GV p l e room_1 s m #[Value.ref b] below meth c 120 963 (lw_Z below #[Value.ref b] s) D (LA s) 14 120 ad (mk X ad ω) [(4, .int (nI (j + 1))), (2, .long (DG p0)), (1, .ref (ad 0)), (0, .ref b)] 41 []) : GV p l e room_1 s m #[Value.ref b] below meth c 120 963 (lw_Z below #[Value.ref b] s) D (LA s) 14 120 ad (mk X ad ω) [(11, .long (DG r)), (6, .int w), (5, .int v), (4, .int (nI j)), (2, .long (DG p0)), (1, .ref (ad 0)), (0, .ref b)] 245 [] := by
  refine g_aload_n C dL_law_245 rfl 5 rfl ?_
  refine g_callS (rest := []) (st1 := [.int 1]) C (c_L_holds ω (gm r p0) (h.lw q) h.2.2.1) (va_cwS 1 C.hts gL_law_L_holds rfl rfl rfl md_L_holds.2 ⟨(Nat.le_of_ble_eq_true rfl), (Nat.le_of_ble_eq_true rfl)⟩) rfl rfl rfl (Nat.le_of_ble_eq_true rfl) dL_law_246 (Nat.le_of_ble_eq_true rfl) (Nat.le_of_ble_eq_true rfl) ?_
  refine g_if_eq (tgt := 312) C dL_law_249 (by decide) (fun z => absurd z (by decide)) (fun _ => ?_)
  refine g_iload C dL_law_252 2 rfl ?_
  refine g_bipush (v := 9) C dL_law_254 (by decide) ?_
  refine g_ishr (v := (v >>> ((9 : Int32) &&& 31))) C dL_law_256 rfl ?_
  refine g_iconst (v := 3) C dL_law_257 (by decide) ?_
  refine g_iand (v := ((v >>> ((9 : Int32) &&& 31)) &&& 3)) C dL_law_258 rfl ?_
  refine g_if_ne (tgt := 292) C dL_law_259 (by decide) (fun h9 => ?_) (fun h9 => ?_)
  · exact t_292 C h q kk
  · obtain ⟨a, ha, xa⟩ := low_nat (w >>> ((4 : Int32) &&& 31)) 9 (by decide) (by decide)
    obtain ⟨b3, hb3, xb⟩ := low_nat (w >>> ((8 : Int32) &&& 31)) 30 (by decide) (by decide)
    have ea : 1 + lowf (w >>> ((4 : Int32) &&& 31)) 9 = nI (1 + a) := by rw [show (9 : Int32) = nI 9 by decide, xa]; exact nI_add 1 a
    have eb : 1 + lowf (w >>> ((8 : Int32) &&& 31)) 30 = nI (1 + b3) := by rw [show (30 : Int32) = nI 30 by decide, xb]; exact nI_add 1 b3
    obtain ⟨T, hTT, h4⟩ := (h.lw q).time
    have hT : f_X7_count 0 ω = nI T := ((h.lw q).rs.s4).trans h4
    refine g_aload_n C dL_law_262 rfl 5 rfl ?_
    refine g_iconst (v := 1) C dL_law_263 (by decide) ?_
    refine g_iload C dL_law_264 1 rfl ?_
    refine g_iconst (v := 4) C dL_law_266 (by decide) ?_
    refine g_ishr (v := (w >>> ((4 : Int32) &&& 31))) C dL_law_267 rfl ?_
    refine g_bipush (v := 9) C dL_law_268 (by decide) ?_
    refine g_callS (rest := [.int 1, .ref (ad 0)]) (st1 := [.int (lowf (w >>> ((4 : Int32) &&& 31)) 9), .int 1, .ref (ad 0)]) C (c_L_low (w >>> ((4 : Int32) &&& 31)) 9 (by decide) (mk X ad ω)) (va_cwS 2 C.hts gL_law_L_low rfl rfl rfl md_L_low.2 ⟨(Nat.le_of_ble_eq_true rfl), (Nat.le_of_ble_eq_true rfl)⟩) rfl rfl rfl (Nat.le_of_ble_eq_true rfl) dL_law_270 (Nat.le_of_ble_eq_true rfl) (Nat.le_of_ble_eq_true rfl) ?_
    refine g_iadd (v := (nI (1 + a))) C dL_law_273 ea ?_
    refine g_iconst (v := 1) C dL_law_274 (by decide) ?_
    refine g_iload C dL_law_275 1 rfl ?_
    refine g_bipush (v := 8) C dL_law_277 (by decide) ?_
    refine g_ishr (v := (w >>> ((8 : Int32) &&& 31))) C dL_law_279 rfl ?_
    refine g_bipush (v := 30) C dL_law_280 (by decide) ?_
    refine g_callS (rest := [.int 1, .int (nI (1 + a)), .ref (ad 0)]) (st1 := [.int (lowf (w >>> ((8 : Int32) &&& 31)) 30), .int 1, .int (nI (1 + a)), .ref (ad 0)]) C (c_L_low (w >>> ((8 : Int32) &&& 31)) 30 (by decide) (mk X ad ω)) (va_cwS 2 C.hts gL_law_L_low rfl rfl rfl md_L_low.2 ⟨(Nat.le_of_ble_eq_true rfl), (Nat.le_of_ble_eq_true rfl)⟩) rfl rfl rfl (Nat.le_of_ble_eq_true rfl) dL_law_282 (Nat.le_of_ble_eq_true rfl) (Nat.le_of_ble_eq_true rfl) ?_
    refine g_iadd (v := (nI (1 + b3))) C dL_law_285 eb ?_
    by_cases hT2 : T + (1 + a) + (1 + b3) ≤ 99999
    · obtain ⟨ω1, ω2, ω3, ω4, ω5, ω6, e1, e2, e3, e4, e5, e6, s1, s2, s3, s4, s5, rr, d5, d6, i6, n6, rs6, q6⟩ := whole_inv h q h4 (by omega) (by omega) hT2
      refine g_callS (rest := []) (st1 := [.int 1]) C (c_L_isWhole2 (1 + a) (1 + b3) T ω ω1 ω2 ω3 ω4 ω5 ω6 hT (by omega) (by omega) hT2 (h.lw q).hst e1 e2 e3 e4 e5 e6 s1 s2 s3 s4 s5 rr d5 d6) (va_cwS 3 C.hts gL_law_L_isWhole rfl rfl rfl md_L_isWhole.2 ⟨(Nat.le_of_ble_eq_true rfl), (Nat.le_of_ble_eq_true rfl)⟩) rfl rfl rfl (Nat.le_of_ble_eq_true rfl) dL_law_286 (Nat.le_of_ble_eq_true rfl) (Nat.le_of_ble_eq_true rfl) ?_
      refine g_if_eq (tgt := 312) C dL_law_289 (by decide) (fun z => absurd z (by decide)) (fun _ => ?_)
      exact t_292 C i6 q6 kk
    · refine g_callS (rest := []) (st1 := [.int 1]) C (c_L_isWhole1 (1 + a) (1 + b3) T ω hT hTT (by omega) (by omega) hT2) (va_cwS 3 C.hts gL_law_L_isWhole rfl rfl rfl md_L_isWhole.2 ⟨(Nat.le_of_ble_eq_true rfl), (Nat.le_of_ble_eq_true rfl)⟩) rfl rfl rfl (Nat.le_of_ble_eq_true rfl) dL_law_286 (Nat.le_of_ble_eq_true rfl) (Nat.le_of_ble_eq_true rfl) ?_
      refine g_if_eq (tgt := 312) C dL_law_289 (by decide) (fun z => absurd z (by decide)) (fun _ => ?_)
      exact t_292 C h q kk
end
