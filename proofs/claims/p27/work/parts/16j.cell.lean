abbrev rm_L_cell : Room := { frames := 0, cells := 0, slots := 0, locals := 0 }
theorem md_L_cell : yL_cell.cls = RL ∧ yL_cell.cls ≠ "java/lang/invoke/MethodHandle" ∧ yL_cell.cls ≠ "java/lang/invoke/VarHandle" ∧ (parseMethodDescriptor yL_cell.desc).map (fun d => d.parameters.length) = some 2 := by decide +kernel
/-- what the law's cell answers -/
def cellF (L : Nat) (xs : Nat → Int32) (k : Nat) : Int32 := if k < L then xs k else (7919 * (nI k + 3)) * (nI k + 11)
/-- the script lies apart -/
def KX (s : State) (A : Nat → Prop) (b L : Nat) (xs : Nat → Int32) : Prop := va_X b L xs s s.heap ∧ b < s.heap.size ∧ ¬ A b
def CTpS (sa : Nat → Nat) (D : va_G) (tys : List (ClassId × FieldType)) (n : Nat) (ad : Nat → Nat) (G : Nat → va_E) (av : List Value) (sz b L : Nat) (xs : Nat → Int32) : Array Value → State → Prop := fun a U => CTp sa D tys n ad G av sz a U ∧ va_X b L xs U U.heap ∧ b < sz ∧ ¬ va_A (gw n ad G) sz b
theorem CTpS.blind {sa : Nat → Nat} {D : va_G} {tys : List (ClassId × FieldType)} {n : Nat} {ad : Nat → Nat} {G : Nat → va_E} {av : List Value} {sz b L : Nat} {xs : Nat → Int32} : FrameBlind (CTpS sa D tys n ad G av sz b L xs) := fun a U g mk q =>
  ⟨CTp.blind a U g mk q.1, va_X.moved (u := U) (U := U.calling g mk a) (Vm.Alike.refl U.vm) q.2.1, q.2.2⟩
def CTS (l : Launch) (y : MethodName) (ws : List Cond) (rm : Room) (sa : Nat → Nat) (D : va_G) (tys : List (ClassId × FieldType)) (n : Nat) (ad : Nat → Nat) (G : Nat → va_E) (b L : Nat) (xs : Nat → Int32) (av : List Value) (rv : Option Value) (G2 : Nat → va_E) : Prop := ∀ sz : Nat, Met l y ws rm (CTpS sa D tys n ad G av sz b L xs) (CTq rv D n ad G G2 sz) 0 0 (va_A (gw n ad G) sz)
theorem cts_of {l : Launch} {y : MethodName} {ws ws' : List Cond} {rm : Room} {sa : Nat → Nat} {D : va_G} {tys : List (ClassId × FieldType)} {n : Nat} {ad : Nat → Nat} {G : Nat → va_E} {b L : Nat} {xs : Nat → Int32} {av : List Value} {rv : Option Value} {G2 : Nat → va_E} {cc : ByteArray} {maxL : Nat} {ret : Option FieldType} {own : String} (lv : List (Nat × Value)) (hy : plainName y.cls = true) (hw : ws = Cond.code y cc maxL ret :: ws') (ho : y.cls = own) (hlen : (lg_sl av).length ≤ maxL) (hlv : lv_args 0 av = lv)
    (body : ∀ (p : Program) (e : Env) (s : State) (m : MethodId) (args : Array Value) (below : List Frame) (meth : Method) (c : Code), GC p rm s m args meth c cc maxL ws own sa D tys (va_A (gw n ad G) s.heap.size) → KX s (va_A (gw n ad G) s.heap.size) b L xs → meth.sig.returnType = ret → meth.locks = false → GV p l e rm s m args below meth c 0 0 (CQ below args s D n ad G rv G2) D (va_A (gw n ad G) s.heap.size) maxL n ad G lv 0 []) : CTS l y ws rm sa D tys n ad G b L xs av rv G2 := by
  subst ho
  intro sz
  refine Met.ofW (cc := cc) (maxL := maxL) (ret := ret) hy hw ?_
  intro p e s m args below meth c s₁ B hml hv
  obtain ⟨⟨rfl, hsz, hP, hK, hD0, hN, hS⟩, hX, hbl, hbA⟩ := hv
  subst hsz
  have hts := atoms_spec (ws := ws) B.pre
  have hown : s.vm.findClass y.cls = some m.cls := findClass_of_methodNamed B.named
  have hl := lv_entry av (n := maxL) hlen
  rw [hlv] at hl
  rw [lg_entry_eq]
  exact body p e s m _ below meth c ⟨B.exec, B.bytes, hml, hown, hts, hK, hN, hS, fun q h => Or.inr h⟩ ⟨hX, hbl, hbA⟩ B.returns B.notSynchronized s.heap [] _ hP hD0.self va_S.rf hl
theorem g_callSX {p : Program} {l : Launch} {e : Env} {R : Room} {s : State} {m : MethodId} {args : Array Value} {below : List Frame} {meth : Method} {c : Code} {cells slots : Nat} {Q : State → Prop} {cc : ByteArray} {nL : Nat} {Ts : List Cond} {own : String} {sa : Nat → Nat} {D : va_G} {tys : List (ClassId × FieldType)} {A : Nat → Prop} {pc n : Nat} {ad : Nat → Nat} {G : Nat → va_E} {lv : List (Nat × Value)} {rest : List Value} (C : GC p R s m args meth c cc nL Ts own sa D tys A) {b L : Nat} {xs : Nat → Int32} (K : KX s A b L xs) {y : MethodName} {bytes : ByteArray} {maxL index n0 : Nat} {ret : Option FieldType} {ws : List Cond} {rm : Room} {As : List Value} {rv : Option Value} {G2 : Nat → va_E} {st0 st1 : List Value} (hM : CTS l y ws rm sa D tys n ad G b L xs As rv G2) (cw : CallB R s args own index y bytes maxL ret ws rm 0 0 n0 ∧ (Cond.static y).before args s = true) (hn : As.length = n0) (h1 : rv.toList ++ rest = st1) (hst : st0 = As.reverse ++ rest) (hW : (rest.map fun v => v.category).sum ≤ 8) (hdg : decode cc pc = .ok (.invokestatic index, 3)) (hce : cells ≤ R.cells) (hsl : slots ≤ R.slots)
    (kk : GV p l e R s m args below meth c cells slots Q D A nL n ad G2 (lv) (pc + 3) (st1)) : GV p l e R s m args below meth c cells slots Q D A nL n ad G (lv) (pc) (st0) :=
  g_run C (fun H locs ls hP hD hS hl => va_runS C.fix (hM H.size) cw ⟨CTpS.blind, fun U hU hW => ⟨g_pre C hP hD hS U hU hW, by rw [hU]; exact (K.1.kept (hS.2.1 b K.2.1 K.2.2)).moved hW.alike, Nat.lt_of_lt_of_le K.2.1 hS.1, fun z => K.2.2 (gw_A hD hS C.hA b z)⟩⟩ rfl hn hl.1 hst (lv_room hW) hdg ⟨hce, hsl⟩) (by rw [h1]; exact kk)
theorem g_sld {p : Program} {l : Launch} {e : Env} {R : Room} {s : State} {m : MethodId} {args : Array Value} {below : List Frame} {meth : Method} {c : Code} {cells slots : Nat} {Q : State → Prop} {cc : ByteArray} {nL : Nat} {Ts : List Cond} {own : String} {sa : Nat → Nat} {D : va_G} {tys : List (ClassId × FieldType)} {A : Nat → Prop} {pc n : Nat} {ad : Nat → Nat} {G : Nat → va_E} {lv : List (Nat × Value)} {rest : List Value} (C : GC p R s m args meth c cc nL Ts own sa D tys A) {b L : Nat} {xs : Nat → Int32} (K : KX s A b L xs) {i x : Int32} (hin : vp_in i L) (hx : xs i.toNatClampNeg = x) (hdg : decode cc pc = .ok (.iaload, 1)) (kk : GV p l e R s m args below meth c cells slots Q D A nL n ad G lv (pc + 1) (.int x :: rest)) : GV p l e R s m args below meth c cells slots Q D A nL n ad G lv pc (.int i :: .ref b :: rest) := by
  intro H locs ls hP hD hS hl
  subst hx
  exact va_sld C.hx C.hb K.1 K.2.1 K.2.2 hS hin hdg (kk H locs ls hP hD hS hl)
theorem g_slen {p : Program} {l : Launch} {e : Env} {R : Room} {s : State} {m : MethodId} {args : Array Value} {below : List Frame} {meth : Method} {c : Code} {cells slots : Nat} {Q : State → Prop} {cc : ByteArray} {nL : Nat} {Ts : List Cond} {own : String} {sa : Nat → Nat} {D : va_G} {tys : List (ClassId × FieldType)} {A : Nat → Prop} {pc n : Nat} {ad : Nat → Nat} {G : Nat → va_E} {lv : List (Nat × Value)} {rest : List Value} (C : GC p R s m args meth c cc nL Ts own sa D tys A) {b L : Nat} {xs : Nat → Int32} (K : KX s A b L xs) (hdg : decode cc pc = .ok (.arraylength, 1)) (kk : GV p l e R s m args below meth c cells slots Q D A nL n ad G lv (pc + 1) (.int (nI L) :: rest)) : GV p l e R s m args below meth c cells slots Q D A nL n ad G lv pc (.ref b :: rest) := by
  intro H locs ls hP hD hS hl
  exact va_slen C.hx C.hb K.1 K.2.1 K.2.2 hS hdg (kk H locs ls hP hD hS hl)
set_option maxRecDepth 100000 in
set_option maxHeartbeats 4000000 in
theorem c_L_cell {l_ : Launch} {sa : Nat → Nat} {D : va_G} {X : Nat → ClassId} {ad : Nat → Nat} {b L : Nat} {xs : Nat → Int32} (k : Nat) (hk : k < 1000) (hL : L ≤ 260) (G : Nat → va_E) : CTS l_ yL_cell wsL_cell rm_L_cell sa D (tyX X) 120 ad G b L xs [.ref b, .int (nI k)] (some (.int (cellF L xs k))) G := by
  refine cts_of [(0, .ref b), (1, .int (nI k))] (by decide +kernel) rfl rfl (Nat.le_of_ble_eq_true rfl) rfl ?_
  intro p_ e_ s_ m_ args_ below_ meth_ c_ C K hret hlk
  refine gv_lv (lv' := [(1, .int (nI k)), (0, .ref b)]) [1, 0] rfl ?_
  refine g_iload_n C dL_cell_0 rfl 0 rfl ?_
  refine g_aload_n C dL_cell_1 rfl 1 rfl ?_
  refine g_slen C K dL_cell_2 ?_
  by_cases q : k < L
  · have ec : cellF L xs k = xs k := if_pos q
    rw [ec]
    refine g_icmp_ge (tgt := 12) C dL_cell_3 (by decide) (fun z => absurd z (nI_ge q (by omega))) (fun _ => ?_)
    refine g_aload_n C dL_cell_6 rfl 1 rfl ?_
    refine g_iload_n C dL_cell_7 rfl 0 rfl ?_
    refine g_sld C K (vp_in_nI q (by omega)) (by rw [nI_clamp (by omega)]) dL_cell_8 ?_
    refine g_goto (tgt := 24) C dL_cell_9 (by decide) ?_
    exact g_iret C hret hlk rfl rfl dL_cell_24
  · have ec : cellF L xs k = (7919 * (nI k + 3)) * (nI k + 11) := if_neg q
    rw [ec]
    refine g_icmp_ge (tgt := 12) C dL_cell_3 (by decide) (fun _ => ?_) (fun z => absurd (nI_le (by omega) (by omega)) z)
    refine g_sipush (v := 7919) C dL_cell_12 (by decide) ?_
    refine g_iload_n C dL_cell_15 rfl 0 rfl ?_
    refine g_iconst (v := 3) C dL_cell_16 (by decide) ?_
    refine g_iadd (v := ((nI k) + 3)) C dL_cell_17 rfl ?_
    refine g_imul (v := (7919 * ((nI k) + 3))) C dL_cell_18 rfl ?_
    refine g_iload_n C dL_cell_19 rfl 0 rfl ?_
    refine g_bipush (v := 11) C dL_cell_20 (by decide) ?_
    refine g_iadd (v := ((nI k) + 11)) C dL_cell_22 rfl ?_
    refine g_imul (v := ((7919 * ((nI k) + 3)) * ((nI k) + 11))) C dL_cell_23 rfl ?_
    exact g_iret C hret hlk rfl rfl dL_cell_24
