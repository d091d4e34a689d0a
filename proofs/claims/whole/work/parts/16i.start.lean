section
variable {p : Program} {l : Launch} {e : Env} {s : State} {m : MethodId} {below : List Frame} {meth : Method} {c : Code} {sa : Nat → Nat} {D : va_G} {X : Nat → ClassId} {ad : Nat → Nat} {b L : Nat} {xs : Nat → Int32} {ω : Mem} {j pc : Nat} {rest : List Value}
set_option maxRecDepth 100000 in
set_option maxHeartbeats 4000000 in
theorem k_start (C : KC p s m b meth c sa D X) (K : KX s (LA s) b L xs) (hL : L ≤ 1536) (hr : meth.sig.returnType = ret) (hlk : meth.locks = false) (had : ∀ i, ad i = s.heap.size + i) (Z : GA (LA s) ad s.heap.size 0 s) : GV p l e room_1 s m #[Value.ref b] below meth c 0 0 (lw_Z below #[Value.ref b] s) D (LA s) 4 0 ad (stW 0 (fun _ => .inr (0, [])) []) [(0, .ref b)] 0 [] := by
  have K7 : Cond.classLink RL 7 RX7 ∈ wsL_law := by decide +kernel
  have I7 : Cond.instantiable RX7 7 ∈ wsL_law := by decide +kernel
  have N7 : Cond.initialized RX7 ∈ wsL_law := by decide +kernel
  have M7 : Cond.methodLink RL 9 yX7_init ∈ wsL_law := by decide +kernel
  have H7 : Cond.instanceMethod yX7_init ∈ wsL_law := by decide +kernel
  have K8 : Cond.classLink RL 10 RX8 ∈ wsL_law := by decide +kernel
  have I8 : Cond.instantiable RX8 14 ∈ wsL_law := by decide +kernel
  have N8 : Cond.initialized RX8 ∈ wsL_law := by decide +kernel
  have M8 : Cond.methodLink RL 12 yX8_init ∈ wsL_law := by decide +kernel
  have H8 : Cond.instanceMethod yX8_init ∈ wsL_law := by decide +kernel
  refine g_new (ci := 7) (fs := [.null, .null, .null, .null, .null, .null, .int 0]) C Z rfl inlX7 tyX7 tyX7_ok K7 I7 N7 rfl (by decide) (Nat.le_of_ble_eq_true rfl) (Nat.le_of_ble_eq_true rfl) dL_law_0 ?_
  refine gv_eqG (G' := stW 0 (fun _ => .inr (0, [])) [.inr (7, [.null, .null, .null, .null, .null, .null, .int 0])]) (stW_push (B := 0) (c := [])) ?_
  refine g_dup C dL_law_3 rfl ?_
  refine g_callI (i := 0) C Z rfl (c_X7_init (B := 0) had) (cwI 0 C.hts gL_law_X7_init rfl rfl rfl (C.hts _ N7) (C.hts _ M7) (C.hts _ H7) rfl (by decide +kernel) ⟨(Nat.le_of_ble_eq_true rfl), (Nat.le_of_ble_eq_true rfl)⟩) rfl rfl (Nat.le_of_ble_eq_true rfl) dL_law_4 (Nat.le_of_ble_eq_true rfl) (Nat.le_of_ble_eq_true rfl) ?_
  refine g_astore_n (lv' := [(1, .ref (ad 0)), (0, .ref b)]) C dL_law_7 rfl (by decide) rfl ?_
  refine g_new (ci := 8) (fs := [.int 0, .null, .null, .null, .int 0, .null, .int 0, .null, .int 0, .null, .null, .int 0, .int 0, .int 0]) C Z rfl inlX8 tyX8 tyX8_ok K8 I8 N8 rfl (by decide) (Nat.le_of_ble_eq_true rfl) (Nat.le_of_ble_eq_true rfl) dL_law_8 ?_
  refine gv_eqG (G' := stW 120 (stW 0 (fun _ => .inr (0, [])) (fgC X ad 0)) [.inr (8, [.int 0, .null, .null, .null, .int 0, .null, .int 0, .null, .int 0, .null, .null, .int 0, .int 0, .int 0])]) ((stW_push (B := 0) (c := fgC X ad 0)).trans (stW_app (B := 0) (c := fgC X ad 0) (d := [.inr (8, [.int 0, .null, .null, .null, .int 0, .null, .int 0, .null, .int 0, .null, .null, .int 0, .int 0, .int 0])])).symm) ?_
  refine g_dup C dL_law_11 rfl ?_
  refine g_callI (i := 120) C Z rfl (c_X8_init (B := 120) had) (cwI 0 C.hts gL_law_X8_init rfl rfl rfl (C.hts _ N8) (C.hts _ M8) (C.hts _ H8) rfl (by decide +kernel) ⟨(Nat.le_of_ble_eq_true rfl), (Nat.le_of_ble_eq_true rfl)⟩) rfl rfl (Nat.le_of_ble_eq_true rfl) dL_law_12 (Nat.le_of_ble_eq_true rfl) (Nat.le_of_ble_eq_true rfl) ?_
  refine g_astore_n (lv' := [(2, .ref (ad 120)), (1, .ref (ad 0)), (0, .ref b)]) C dL_law_15 rfl (by decide) rfl ?_
  refine g_iconst (v := nI 0) C dL_law_16 (by decide) ?_
  refine g_istore_n (lv' := [(3, .int (nI 0)), (2, .ref (ad 120)), (1, .ref (ad 0)), (0, .ref b)]) C dL_law_17 rfl (by decide) rfl ?_
  refine gv_eqP (G' := mk X ad w0) (fun i hi => we_all i hi) ?_
  exact k_loop C K hL hr hlk L 0 w0 (by omega) (by omega) LR_0
end
/-- from the entry, for every script, the law comes to its end with true -/
theorem whole_start {p : Program} {e : Env} {s : State} {m : MethodId} {below : List Frame} {meth : Method} {c : Code} (l : Launch) (hflags : l.flags = flags0) {b L : Nat} {xs : Nat → Int32} (hL : L ≤ 1536) (C0 : lw_At p s m meth c b L xs) : W p l e room_1 s m #[Value.ref b] below meth c s.heap [] 0 0 (lw_Z below #[Value.ref b] s) (entryFrame m ([Value.ref b] : List Value).toArray 4) := by
  obtain ⟨hx, hb, hr, hml, hown, hts, hX, hbl, hlocks, hgv⟩ := id C0
  have hw : ∀ w ∈ wsL_law, w.before #[Value.ref b] s = true := fun w h => hts w (wsL_law_in w h)
  obtain ⟨D, X, hK⟩ := kx_K hts
  obtain ⟨sa, hS⟩ := kx_S hts hgv
  have C : KC p s m b meth c sa D X := ⟨hx, hb, hml, hown, hw, hK, kx_N hts, hS, fun _ h => h⟩
  have K : KX s (LA s) b L xs := ⟨hX, hbl, Nat.not_le.mpr hbl⟩
  have Z : GA (LA s) (fun i => s.heap.size + i) s.heap.size 0 s := ⟨fun _ => rfl, rfl, fun q h => Or.inr h, va_AO.of (hts _ kx_a2), va_AO.of (hts _ kx_a3)⟩
  have hl := lv_entry ([Value.ref b]) (n := 4) (Nat.le_of_ble_eq_true rfl)
  rw [lg_entry_eq]
  exact k_start (l := l) (e := e) (below := below) C K hL hr hlocks (fun _ => rfl) Z s.heap [] _ (fun k q h => by simp [gw] at h) ⟨fun i j p q h => by simp [gw] at h, fun k q h => by simp [gw] at h⟩ va_S.rf hl
