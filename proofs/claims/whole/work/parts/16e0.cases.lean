section
variable {p : Program} {l : Launch} {e : Env} {s : State} {m : MethodId} {below : List Frame} {meth : Method} {c : Code} {sa : Nat → Nat} {D : va_G} {X : Nat → ClassId} {ad : Nat → Nat} {b L : Nat} {xs : Nat → Int32} {ω : Mem} {j pc : Nat} {rest : List Value}
set_option maxRecDepth 100000 in
set_option maxHeartbeats 4000000 in
theorem k_set (C : KC p s m b meth c sa D X) (K : KX s (LA s) b L xs) (hj : j + 3 ≤ L) (hL : L ≤ 1536) (h : LR ω ω) (kk : ∀ ω, LR ω ω → LV p l e s m b below meth c D X ad ω (j + 3) 18 []) : LV p l e s m b below meth c D X ad ω j 144 [] := by
  obtain ⟨h1, he, h2⟩ := op2 (a := (f_X7_set (xs (j + 1)) (xs (j + 2)) ω)) (b := fun μ => (f_X8_set (xs (j + 1)) (xs (j + 2)) μ)) h (fun μ hμ => op_set hμ)
  refine g_aload_n C dL_law_144 rfl 2 rfl ?_
  refine k_arg C K (k := 1) (by decide) (by omega) hL rfl dL_law_145 dL_law_146 dL_law_147 dL_law_148 dL_law_149 ?_
  refine k_arg C K (k := 2) (by decide) (by omega) hL rfl dL_law_150 dL_law_151 dL_law_152 dL_law_153 dL_law_154 ?_
  refine g_callV (rest := []) (st1 := [.int (f_X7_set (xs (j + 1)) (xs (j + 2)) ω).1]) C (c_X7_set (xs (j + 1)) (xs (j + 2)) ω (h.hst)) (cwV 2 C.hts gL_law_X7_set rfl rfl rfl md_X7_set ⟨(Nat.le_of_ble_eq_true rfl), (Nat.le_of_ble_eq_true rfl)⟩) (by decide) (mk_0 (by decide)) rfl rfl rfl rfl rfl (Nat.le_of_ble_eq_true rfl) dL_law_155 (Nat.le_of_ble_eq_true rfl) (Nat.le_of_ble_eq_true rfl) ?_
  refine g_aload_n C dL_law_158 rfl 1 rfl ?_
  refine k_arg C K (k := 1) (by decide) (by omega) hL rfl dL_law_159 dL_law_160 dL_law_161 dL_law_162 dL_law_163 ?_
  refine k_arg C K (k := 2) (by decide) (by omega) hL rfl dL_law_164 dL_law_165 dL_law_166 dL_law_167 dL_law_168 ?_
  refine g_callV (rest := [.int (f_X7_set (xs (j + 1)) (xs (j + 2)) ω).1]) (st1 := [.int (f_X8_set (xs (j + 1)) (xs (j + 2)) (f_X7_set (xs (j + 1)) (xs (j + 2)) ω).2).1, .int (f_X7_set (xs (j + 1)) (xs (j + 2)) ω).1]) C (c_X8_set (xs (j + 1)) (xs (j + 2)) (f_X7_set (xs (j + 1)) (xs (j + 2)) ω).2 (h1.mi)) (cwV 2 C.hts gL_law_X8_set rfl rfl rfl md_X8_set ⟨(Nat.le_of_ble_eq_true rfl), (Nat.le_of_ble_eq_true rfl)⟩) (by decide) (mk_11 (by decide)) rfl rfl rfl rfl rfl (Nat.le_of_ble_eq_true rfl) dL_law_169 (Nat.le_of_ble_eq_true rfl) (Nat.le_of_ble_eq_true rfl) ?_
  exact k_cmp C he dL_law_172 (by decide) (kk _ h2)
set_option maxRecDepth 100000 in
set_option maxHeartbeats 4000000 in
theorem k_setKind (C : KC p s m b meth c sa D X) (K : KX s (LA s) b L xs) (hj : j + 3 ≤ L) (hL : L ≤ 1536) (h : LR ω ω) (kk : ∀ ω, LR ω ω → LV p l e s m b below meth c D X ad ω (j + 3) 18 []) : LV p l e s m b below meth c D X ad ω j 177 [] := by
  by_cases hb : xs (j + 1) < 0 ∨ 4 ≤ xs (j + 1)
  · obtain ⟨h1, he, h2⟩ := op2 (a := ((f_X7_setKindB (xs (j + 1)) (xs (j + 2)) ω), ω)) (b := fun μ => (f_X8_setKindB (xs (j + 1)) (xs (j + 2)) μ)) h (fun μ hμ => opB hμ)
    refine g_aload_n C dL_law_177 rfl 2 rfl ?_
    refine k_arg C K (k := 1) (by decide) (by omega) hL rfl dL_law_178 dL_law_179 dL_law_180 dL_law_181 dL_law_182 ?_
    refine k_arg C K (k := 2) (by decide) (by omega) hL rfl dL_law_183 dL_law_184 dL_law_185 dL_law_186 dL_law_187 ?_
    refine g_callV (rest := []) (st1 := [.int (f_X7_setKindB (xs (j + 1)) (xs (j + 2)) ω)]) C (c_X7_setKindB (xs (j + 1)) (xs (j + 2)) hb ω) (cwV 2 C.hts gL_law_X7_setKind rfl rfl rfl md_X7_setKind ⟨(Nat.le_of_ble_eq_true rfl), (Nat.le_of_ble_eq_true rfl)⟩) (by decide) (mk_0 (by decide)) rfl rfl rfl rfl rfl (Nat.le_of_ble_eq_true rfl) dL_law_188 (Nat.le_of_ble_eq_true rfl) (Nat.le_of_ble_eq_true rfl) ?_
    refine g_aload_n C dL_law_191 rfl 1 rfl ?_
    refine k_arg C K (k := 1) (by decide) (by omega) hL rfl dL_law_192 dL_law_193 dL_law_194 dL_law_195 dL_law_196 ?_
    refine k_arg C K (k := 2) (by decide) (by omega) hL rfl dL_law_197 dL_law_198 dL_law_199 dL_law_200 dL_law_201 ?_
    refine g_callV (rest := [.int (f_X7_setKindB (xs (j + 1)) (xs (j + 2)) ω)]) (st1 := [.int (f_X8_setKindB (xs (j + 1)) (xs (j + 2)) ω).1, .int (f_X7_setKindB (xs (j + 1)) (xs (j + 2)) ω)]) C (c_X8_setKindB (xs (j + 1)) (xs (j + 2)) hb ω) (cwV 2 C.hts gL_law_X8_setKind rfl rfl rfl md_X8_setKind ⟨(Nat.le_of_ble_eq_true rfl), (Nat.le_of_ble_eq_true rfl)⟩) (by decide) (mk_11 (by decide)) rfl rfl rfl rfl rfl (Nat.le_of_ble_eq_true rfl) dL_law_202 (Nat.le_of_ble_eq_true rfl) (Nat.le_of_ble_eq_true rfl) ?_
    exact k_cmp C he dL_law_205 (by decide) (kk _ h2)
  · obtain ⟨k, hk, e1⟩ := k_burn hb
    obtain ⟨h1, he, h2⟩ := op2 (a := (f_X7_setKind k (xs (j + 2)) ω)) (b := fun μ => (f_X8_setKind k (xs (j + 2)) μ)) h (fun μ hμ => op_setKind hμ hk)
    refine g_aload_n C dL_law_177 rfl 2 rfl ?_
    refine k_arg C K (k := 1) (by decide) (by omega) hL e1 dL_law_178 dL_law_179 dL_law_180 dL_law_181 dL_law_182 ?_
    refine k_arg C K (k := 2) (by decide) (by omega) hL rfl dL_law_183 dL_law_184 dL_law_185 dL_law_186 dL_law_187 ?_
    refine g_callV (rest := []) (st1 := [.int (f_X7_setKind k (xs (j + 2)) ω).1]) C (c_X7_setKind k (xs (j + 2)) hk ω (h.hst)) (cwV 2 C.hts gL_law_X7_setKind rfl rfl rfl md_X7_setKind ⟨(Nat.le_of_ble_eq_true rfl), (Nat.le_of_ble_eq_true rfl)⟩) (by decide) (mk_0 (by decide)) rfl rfl rfl rfl rfl (Nat.le_of_ble_eq_true rfl) dL_law_188 (Nat.le_of_ble_eq_true rfl) (Nat.le_of_ble_eq_true rfl) ?_
    refine g_aload_n C dL_law_191 rfl 1 rfl ?_
    refine k_arg C K (k := 1) (by decide) (by omega) hL e1 dL_law_192 dL_law_193 dL_law_194 dL_law_195 dL_law_196 ?_
    refine k_arg C K (k := 2) (by decide) (by omega) hL rfl dL_law_197 dL_law_198 dL_law_199 dL_law_200 dL_law_201 ?_
    refine g_callV (rest := [.int (f_X7_setKind k (xs (j + 2)) ω).1]) (st1 := [.int (f_X8_setKind k (xs (j + 2)) (f_X7_setKind k (xs (j + 2)) ω).2).1, .int (f_X7_setKind k (xs (j + 2)) ω).1]) C (c_X8_setKind k (xs (j + 2)) hk (f_X7_setKind k (xs (j + 2)) ω).2 (h1.mi)) (cwV 2 C.hts gL_law_X8_setKind rfl rfl rfl md_X8_setKind ⟨(Nat.le_of_ble_eq_true rfl), (Nat.le_of_ble_eq_true rfl)⟩) (by decide) (mk_11 (by decide)) rfl rfl rfl rfl rfl (Nat.le_of_ble_eq_true rfl) dL_law_202 (Nat.le_of_ble_eq_true rfl) (Nat.le_of_ble_eq_true rfl) ?_
    exact k_cmp C he dL_law_205 (by decide) (kk _ h2)
set_option maxRecDepth 100000 in
set_option maxHeartbeats 4000000 in
theorem k_plan (C : KC p s m b meth c sa D X) (K : KX s (LA s) b L xs) (hj : j + 3 ≤ L) (hL : L ≤ 1536) (h : LR ω ω) (kk : ∀ ω, LR ω ω → LV p l e s m b below meth c D X ad ω (j + 3) 18 []) : LV p l e s m b below meth c D X ad ω j 210 [] := by
  obtain ⟨h1, he, h2⟩ := op2 (a := (f_X7_plan (xs (j + 1)) (xs (j + 2)) ω)) (b := fun μ => (f_X8_plan (xs (j + 1)) (xs (j + 2)) μ)) h (fun μ hμ => op_plan hμ)
  refine g_aload_n C dL_law_210 rfl 2 rfl ?_
  refine k_arg C K (k := 1) (by decide) (by omega) hL rfl dL_law_211 dL_law_212 dL_law_213 dL_law_214 dL_law_215 ?_
  refine k_arg C K (k := 2) (by decide) (by omega) hL rfl dL_law_216 dL_law_217 dL_law_218 dL_law_219 dL_law_220 ?_
  refine g_callV (rest := []) (st1 := [.int (f_X7_plan (xs (j + 1)) (xs (j + 2)) ω).1]) C (c_X7_plan (xs (j + 1)) (xs (j + 2)) ω (h.hst)) (cwV 2 C.hts gL_law_X7_plan rfl rfl rfl md_X7_plan ⟨(Nat.le_of_ble_eq_true rfl), (Nat.le_of_ble_eq_true rfl)⟩) (by decide) (mk_0 (by decide)) rfl rfl rfl rfl rfl (Nat.le_of_ble_eq_true rfl) dL_law_221 (Nat.le_of_ble_eq_true rfl) (Nat.le_of_ble_eq_true rfl) ?_
  refine g_aload_n C dL_law_224 rfl 1 rfl ?_
  refine k_arg C K (k := 1) (by decide) (by omega) hL rfl dL_law_225 dL_law_226 dL_law_227 dL_law_228 dL_law_229 ?_
  refine k_arg C K (k := 2) (by decide) (by omega) hL rfl dL_law_230 dL_law_231 dL_law_232 dL_law_233 dL_law_234 ?_
  refine g_callV (rest := [.int (f_X7_plan (xs (j + 1)) (xs (j + 2)) ω).1]) (st1 := [.int (f_X8_plan (xs (j + 1)) (xs (j + 2)) (f_X7_plan (xs (j + 1)) (xs (j + 2)) ω).2).1, .int (f_X7_plan (xs (j + 1)) (xs (j + 2)) ω).1]) C (c_X8_plan (xs (j + 1)) (xs (j + 2)) (f_X7_plan (xs (j + 1)) (xs (j + 2)) ω).2 (h1.mi)) (cwV 2 C.hts gL_law_X8_plan rfl rfl rfl md_X8_plan ⟨(Nat.le_of_ble_eq_true rfl), (Nat.le_of_ble_eq_true rfl)⟩) (by decide) (mk_11 (by decide)) rfl rfl rfl rfl rfl (Nat.le_of_ble_eq_true rfl) dL_law_235 (Nat.le_of_ble_eq_true rfl) (Nat.le_of_ble_eq_true rfl) ?_
  exact k_cmp C he dL_law_238 (by decide) (kk _ h2)
set_option maxRecDepth 100000 in
set_option maxHeartbeats 4000000 in
theorem k_readPlan (C : KC p s m b meth c sa D X) (K : KX s (LA s) b L xs) (hj : j + 3 ≤ L) (hL : L ≤ 1536) (h : LR ω ω) (kk : ∀ ω, LR ω ω → LV p l e s m b below meth c D X ad ω (j + 3) 18 []) : LV p l e s m b below meth c D X ad ω j 243 [] := by
  obtain ⟨h1, he, h2⟩ := op2 (a := (f_X7_readPlan ω)) (b := fun μ => (f_X8_readPlan μ)) h (fun μ hμ => (op_readPlan hμ).1)
  have r1 := (op_readPlan h).2.1
  have r2 := (op_readPlan h1).2.2
  refine g_aload_n C dL_law_243 rfl 2 rfl ?_
  refine g_callV (rest := []) (st1 := [.int (f_X7_readPlan ω).1]) C (c_X7_readPlan ω r1) (cwV 0 C.hts gL_law_X7_readPlan rfl rfl rfl md_X7_readPlan ⟨(Nat.le_of_ble_eq_true rfl), (Nat.le_of_ble_eq_true rfl)⟩) (by decide) (mk_0 (by decide)) rfl rfl rfl rfl rfl (Nat.le_of_ble_eq_true rfl) dL_law_244 (Nat.le_of_ble_eq_true rfl) (Nat.le_of_ble_eq_true rfl) ?_
  refine g_aload_n C dL_law_247 rfl 1 rfl ?_
  refine g_callV (rest := [.int (f_X7_readPlan ω).1]) (st1 := [.int (f_X8_readPlan (f_X7_readPlan ω).2).1, .int (f_X7_readPlan ω).1]) C (c_X8_readPlan (f_X7_readPlan ω).2 h1.mi h1.2.2.2.2.1 r2) (cwV 0 C.hts gL_law_X8_readPlan rfl rfl rfl md_X8_readPlan ⟨(Nat.le_of_ble_eq_true rfl), (Nat.le_of_ble_eq_true rfl)⟩) (by decide) (mk_11 (by decide)) rfl rfl rfl rfl rfl (Nat.le_of_ble_eq_true rfl) dL_law_248 (Nat.le_of_ble_eq_true rfl) (Nat.le_of_ble_eq_true rfl) ?_
  exact k_cmp C he dL_law_251 (by decide) (kk _ h2)
set_option maxRecDepth 100000 in
set_option maxHeartbeats 4000000 in
theorem k_turn (C : KC p s m b meth c sa D X) (K : KX s (LA s) b L xs) (hj : j + 3 ≤ L) (hL : L ≤ 1536) (h : LR ω ω) (kk : ∀ ω, LR ω ω → LV p l e s m b below meth c D X ad ω (j + 3) 18 []) : LV p l e s m b below meth c D X ad ω j 256 [] := by
  by_cases hb : xs (j + 1) < 0 ∨ 4 ≤ xs (j + 1)
  · obtain ⟨h1, he, h2⟩ := op2 (a := ((f_X7_turnB (xs (j + 1)) (xs (j + 2)) ω), ω)) (b := fun μ => (f_X8_turnB (xs (j + 1)) (xs (j + 2)) μ)) h (fun μ hμ => opB hμ)
    refine g_aload_n C dL_law_256 rfl 2 rfl ?_
    refine k_arg C K (k := 1) (by decide) (by omega) hL rfl dL_law_257 dL_law_258 dL_law_259 dL_law_260 dL_law_261 ?_
    refine k_arg C K (k := 2) (by decide) (by omega) hL rfl dL_law_262 dL_law_263 dL_law_264 dL_law_265 dL_law_266 ?_
    refine g_callV (rest := []) (st1 := [.int (f_X7_turnB (xs (j + 1)) (xs (j + 2)) ω)]) C (c_X7_turnB (xs (j + 1)) (xs (j + 2)) hb ω) (cwV 2 C.hts gL_law_X7_turn rfl rfl rfl md_X7_turn ⟨(Nat.le_of_ble_eq_true rfl), (Nat.le_of_ble_eq_true rfl)⟩) (by decide) (mk_0 (by decide)) rfl rfl rfl rfl rfl (Nat.le_of_ble_eq_true rfl) dL_law_267 (Nat.le_of_ble_eq_true rfl) (Nat.le_of_ble_eq_true rfl) ?_
    refine g_aload_n C dL_law_270 rfl 1 rfl ?_
    refine k_arg C K (k := 1) (by decide) (by omega) hL rfl dL_law_271 dL_law_272 dL_law_273 dL_law_274 dL_law_275 ?_
    refine k_arg C K (k := 2) (by decide) (by omega) hL rfl dL_law_276 dL_law_277 dL_law_278 dL_law_279 dL_law_280 ?_
    refine g_callV (rest := [.int (f_X7_turnB (xs (j + 1)) (xs (j + 2)) ω)]) (st1 := [.int (f_X8_turnB (xs (j + 1)) (xs (j + 2)) ω).1, .int (f_X7_turnB (xs (j + 1)) (xs (j + 2)) ω)]) C (c_X8_turnB (xs (j + 1)) (xs (j + 2)) hb ω) (cwV 2 C.hts gL_law_X8_turn rfl rfl rfl md_X8_turn ⟨(Nat.le_of_ble_eq_true rfl), (Nat.le_of_ble_eq_true rfl)⟩) (by decide) (mk_11 (by decide)) rfl rfl rfl rfl rfl (Nat.le_of_ble_eq_true rfl) dL_law_281 (Nat.le_of_ble_eq_true rfl) (Nat.le_of_ble_eq_true rfl) ?_
    exact k_cmp C he dL_law_284 (by decide) (kk _ h2)
  · obtain ⟨k, hk, e1⟩ := k_burn hb
    obtain ⟨h1, he, h2⟩ := op2 (a := (f_X7_turn k (xs (j + 2)) ω)) (b := fun μ => (f_X8_turn k (xs (j + 2)) μ)) h (fun μ hμ => op_turn hμ hk)
    refine g_aload_n C dL_law_256 rfl 2 rfl ?_
    refine k_arg C K (k := 1) (by decide) (by omega) hL e1 dL_law_257 dL_law_258 dL_law_259 dL_law_260 dL_law_261 ?_
    refine k_arg C K (k := 2) (by decide) (by omega) hL rfl dL_law_262 dL_law_263 dL_law_264 dL_law_265 dL_law_266 ?_
    refine g_callV (rest := []) (st1 := [.int (f_X7_turn k (xs (j + 2)) ω).1]) C (c_X7_turn k (xs (j + 2)) hk ω (h.hst)) (cwV 2 C.hts gL_law_X7_turn rfl rfl rfl md_X7_turn ⟨(Nat.le_of_ble_eq_true rfl), (Nat.le_of_ble_eq_true rfl)⟩) (by decide) (mk_0 (by decide)) rfl rfl rfl rfl rfl (Nat.le_of_ble_eq_true rfl) dL_law_267 (Nat.le_of_ble_eq_true rfl) (Nat.le_of_ble_eq_true rfl) ?_
    refine g_aload_n C dL_law_270 rfl 1 rfl ?_
    refine k_arg C K (k := 1) (by decide) (by omega) hL e1 dL_law_271 dL_law_272 dL_law_273 dL_law_274 dL_law_275 ?_
    refine k_arg C K (k := 2) (by decide) (by omega) hL rfl dL_law_276 dL_law_277 dL_law_278 dL_law_279 dL_law_280 ?_
    refine g_callV (rest := [.int (f_X7_turn k (xs (j + 2)) ω).1]) (st1 := [.int (f_X8_turn k (xs (j + 2)) (f_X7_turn k (xs (j + 2)) ω).2).1, .int (f_X7_turn k (xs (j + 2)) ω).1]) C (c_X8_turn k (xs (j + 2)) hk (f_X7_turn k (xs (j + 2)) ω).2 (h1.mi)) (cwV 2 C.hts gL_law_X8_turn rfl rfl rfl md_X8_turn ⟨(Nat.le_of_ble_eq_true rfl), (Nat.le_of_ble_eq_true rfl)⟩) (by decide) (mk_11 (by decide)) rfl rfl rfl rfl rfl (Nat.le_of_ble_eq_true rfl) dL_law_281 (Nat.le_of_ble_eq_true rfl) (Nat.le_of_ble_eq_true rfl) ?_
    exact k_cmp C he dL_law_284 (by decide) (kk _ h2)
end
