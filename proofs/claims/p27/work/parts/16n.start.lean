theorem c_res {l_ : Launch} {sa : Nat → Nat} {D : va_G} {X : Nat → ClassId} {ad : Nat → Nat} {ω ω' : Mem} {r : Int32} (hst : hstP ω) (r1 : (f_X7_restore ω).1 = r) (e : (f_X7_restore ω).2 = ω') : CT l_ yX7_restore wsX7_restore rm_X7_restore sa D (tyX X) 120 ad (mk X ad ω) [.ref (ad 0)] (some (.int r) : Option Value) (mk X ad ω') := by
  rw [← e, ← r1]; exact c_X7_restore ω hst
section
variable {p : Program} {l : Launch} {e : Env} {s : State} {m : MethodId} {below : List Frame} {meth : Method} {c : Code} {sa : Nat → Nat} {D : va_G} {X : Nat → ClassId} {ad : Nat → Nat} {b L : Nat} {xs : Nat → Int32} {ω : Mem} {j : Nat} {v w : Int32} {r p0 : Nat → Int32} {n : Nat} {rs : Nat → Nat → Int32}
set_option maxRecDepth 100000 in
set_option maxHeartbeats 4000000 in
theorem k_start (C : KC p s m b meth c sa D X) (K : KX s (LA s) b L xs) (hL : L ≤ 260) (hr : meth.sig.returnType = ret) (hlk : meth.locks = false) (had : ∀ i, ad i = s.heap.size + i) (Z : GA (LA s) ad s.heap.size 0 s) : GV p l e room_1 s m #[Value.ref b] below meth c 0 0 (lw_Z below #[Value.ref b] s) D (LA s) 14 0 ad (stW 0 (fun _ => .inr (0, [])) []) [(0, .ref b)] 0 [] := by
  have K7 : Cond.classLink RL 13 RX7 ∈ wsL_law := by decide +kernel
  have I7 : Cond.instantiable RX7 7 ∈ wsL_law := by decide +kernel
  have N7 : Cond.initialized RX7 ∈ wsL_law := by decide +kernel
  have M7 : Cond.methodLink RL 76 yX7_init ∈ wsL_law := by decide +kernel
  have H7 : Cond.instanceMethod yX7_init ∈ wsL_law := by decide +kernel
  obtain ⟨k1, k2⟩ := keep_0
  obtain ⟨x, hx⟩ : ∃ x, (f_X7_keep w0).1 = x := ⟨_, rfl⟩
  obtain ⟨ω1, hw⟩ : ∃ x, (f_X7_keep w0).2 = x := ⟨_, rfl⟩
  rw [hw] at k1 k2
  refine g_new (ci := 7) (fs := [.null, .null, .null, .null, .null, .null, .int 0]) C Z rfl inlX7 tyX7 tyX7_ok K7 I7 N7 rfl (by decide) (Nat.le_of_ble_eq_true rfl) (Nat.le_of_ble_eq_true rfl) dL_law_0 ?_
  refine gv_eqG (G' := stW 0 (fun _ => .inr (0, [])) [.inr (7, [.null, .null, .null, .null, .null, .null, .int 0])]) (stW_push (B := 0) (c := [])) ?_
  refine g_dup C dL_law_3 rfl ?_
  refine g_callI (i := 0) C Z rfl (c_X7_init (B := 0) had) (cwI 0 C.hts gL_law_X7_init rfl rfl rfl (C.hts _ N7) (C.hts _ M7) (C.hts _ H7) rfl (by decide +kernel) ⟨(Nat.le_of_ble_eq_true rfl), (Nat.le_of_ble_eq_true rfl)⟩) rfl rfl (Nat.le_of_ble_eq_true rfl) dL_law_4 (Nat.le_of_ble_eq_true rfl) (Nat.le_of_ble_eq_true rfl) ?_
  refine g_astore_n (lv' := [(1, .ref (ad 0)), (0, .ref b)]) C dL_law_7 rfl (by decide) rfl ?_
  refine gv_eqP (G' := mk X ad w0) (fun i hi => we_all i hi) ?_
  refine g_aload_n C dL_law_8 rfl 0 rfl ?_
  refine g_callV (rest := []) (st1 := [.int (-5)]) C (c_und (ω' := w0) hst_0 (by rw [undo_0]) (by rw [undo_0])) (cwV 0 C.hts gL_law_X7_undo rfl rfl rfl md_X7_undo ⟨(Nat.le_of_ble_eq_true rfl), (Nat.le_of_ble_eq_true rfl)⟩) (by decide) (mk_0 (by decide)) rfl rfl rfl rfl rfl (Nat.le_of_ble_eq_true rfl) dL_law_9 (Nat.le_of_ble_eq_true rfl) (Nat.le_of_ble_eq_true rfl) ?_
  refine g_bipush (v := (-5)) C dL_law_12 (by decide) ?_
  refine g_icmp_ne (tgt := 26) C dL_law_14 (by decide) (fun z => absurd rfl z) (fun _ => ?_)
  refine g_aload_n C dL_law_17 rfl 0 rfl ?_
  refine g_callV (rest := []) (st1 := [.int (-5)]) C (c_res (ω' := w0) hst_0 (by rw [restore_0]) (by rw [restore_0])) (cwV 0 C.hts gL_law_X7_restore rfl rfl rfl md_X7_restore ⟨(Nat.le_of_ble_eq_true rfl), (Nat.le_of_ble_eq_true rfl)⟩) (by decide) (mk_0 (by decide)) rfl rfl rfl rfl rfl (Nat.le_of_ble_eq_true rfl) dL_law_18 (Nat.le_of_ble_eq_true rfl) (Nat.le_of_ble_eq_true rfl) ?_
  refine g_bipush (v := (-5)) C dL_law_21 (by decide) ?_
  refine g_icmp_eq (tgt := 28) C dL_law_23 (by decide) (fun _ => ?_) (fun z => absurd rfl z)
  refine g_aload_n C dL_law_28 rfl 0 rfl ?_
  refine g_callV (rest := []) (st1 := [.int x]) C (c_kep (r := x) hx hw) (cwV 0 C.hts gL_law_X7_keep rfl rfl rfl md_X7_keep ⟨(Nat.le_of_ble_eq_true rfl), (Nat.le_of_ble_eq_true rfl)⟩) (by decide) (mk_0 (by decide)) rfl rfl rfl rfl rfl (Nat.le_of_ble_eq_true rfl) dL_law_29 (Nat.le_of_ble_eq_true rfl) (Nat.le_of_ble_eq_true rfl) ?_
  refine g_pop C dL_law_32 rfl ?_
  refine g_aload_n C dL_law_33 rfl 0 rfl ?_
  refine g_callS (rest := []) (st1 := [.long (DG ms0)]) C (c_dig (dig_inv k1 k2)) (va_cwS 1 C.hts gL_law_L_digest rfl rfl rfl md_L_digest.2 ⟨(Nat.le_of_ble_eq_true rfl), (Nat.le_of_ble_eq_true rfl)⟩) rfl rfl rfl (Nat.le_of_ble_eq_true rfl) dL_law_34 (Nat.le_of_ble_eq_true rfl) (Nat.le_of_ble_eq_true rfl) ?_
  refine g_lstore_n (lv' := [(2, .long (DG ms0)), (1, .ref (ad 0)), (0, .ref b)]) C dL_law_37 rfl (by decide) rfl ?_
  refine g_iconst (v := (nI 0)) C dL_law_38 (by decide) ?_
  refine g_istore (lv' := [(4, .int (nI 0)), (2, .long (DG ms0)), (1, .ref (ad 0)), (0, .ref b)]) C dL_law_39 (by decide) rfl ?_
  exact t_loop C K hL hr hlk 30 0 rfl ω1 ms0 ms0 0 _ k1 k2
end
/-- from the entry, for every script, the law comes to its end with true -/
theorem whole_start {p : Program} {e : Env} {s : State} {m : MethodId} {below : List Frame} {meth : Method} {c : Code} (l : Launch) (hflags : l.flags = flags0) {b L : Nat} {xs : Nat → Int32} (hL : L ≤ 260) (C0 : lw_At p s m meth c b L xs) : W p l e room_1 s m #[Value.ref b] below meth c s.heap [] 0 0 (lw_Z below #[Value.ref b] s) (entryFrame m ([Value.ref b] : List Value).toArray 14) := by
  obtain ⟨hx, hb, hr, hml, hown, hts, hX, hbl, hlocks, hgv⟩ := id C0
  have hw : ∀ w ∈ wsL_law, w.before #[Value.ref b] s = true := fun w h => hts w (wsL_law_in w h)
  obtain ⟨D, X, hK⟩ := kx_K hts
  obtain ⟨sa, hS⟩ := kx_S hts hgv
  have C : KC p s m b meth c sa D X := ⟨hx, hb, hml, hown, hw, hK, kx_N hts, hS, fun _ h => h⟩
  have K : KX s (LA s) b L xs := ⟨hX, hbl, Nat.not_le.mpr hbl⟩
  have Z : GA (LA s) (fun i => s.heap.size + i) s.heap.size 0 s := ⟨fun _ => rfl, rfl, fun q h => Or.inr h, va_AO.of (hts _ kx_a2), va_AO.of (hts _ kx_a3)⟩
  have hl := lv_entry ([Value.ref b]) (n := 14) (Nat.le_of_ble_eq_true rfl)
  rw [lg_entry_eq]
  exact k_start (l := l) (e := e) (below := below) C K hL hr hlocks (fun _ => rfl) Z s.heap [] _ (fun k q h => by simp [gw] at h) ⟨fun i j p q h => by simp [gw] at h, fun k q h => by simp [gw] at h⟩ va_S.rf hl
