/-- a constructor's end: k new cells, the world gw (n + k) ad G2 -/
def CTNq (rv : Option Value) (D : va_G) (n k : Nat) (ad : Nat → Nat) (G G2 : Nat → va_E) : Array Value → State → Outcome → State → Prop := fun _ st oc t => (oc = .returned rv ∧ va_P D vwCl (gw (n + k) ad G2) t.heap) ∧ va_F (va_A (gw n ad G) (ad n)) st t
/-- a constructor's start: as a contract's, and the classes of the rows of objects are there -/
def CTpN (sa : Nat → Nat) (D : va_G) (tys : List (ClassId × FieldType)) (n : Nat) (ad : Nat → Nat) (G : Nat → va_E) (av : List Value) (sz : Nat) : Array Value → State → Prop := fun a U => CTp sa D tys n ad G av sz a U ∧ va_AO RX0 U ∧ va_AO RX5 U
theorem CTpN.blind {sa : Nat → Nat} {D : va_G} {tys : List (ClassId × FieldType)} {n : Nat} {ad : Nat → Nat} {G : Nat → va_E} {av : List Value} {sz : Nat} : FrameBlind (CTpN sa D tys n ad G av sz) := fun a U g mk q =>
  ⟨CTp.blind a U g mk q.1, va_AO.moved (u := U) (U := U.calling g mk a) (Vm.Alike.refl U.vm) q.2.1, va_AO.moved (u := U) (U := U.calling g mk a) (Vm.Alike.refl U.vm) q.2.2⟩
def CTN (l : Launch) (y : MethodName) (ws : List Cond) (rm : Room) (sa : Nat → Nat) (D : va_G) (tys : List (ClassId × FieldType)) (n k w : Nat) (ad : Nat → Nat) (G : Nat → va_E) (av : List Value) (rv : Option Value) (G2 : Nat → va_E) : Prop := Met l y ws rm (CTpN sa D tys n ad G av (ad n)) (CTNq rv D n k ad G G2) k w (va_A (gw n ad G) (ad n))
def CQN (below : List Frame) (args : Array Value) (s : State) (D : va_G) (n k w : Nat) (ad : Nat → Nat) (G0 : Nat → va_E) (rv : Option Value) (G2 : Nat → va_E) : State → Prop := MQ below (CTNq rv D n k ad G0 G2) args s k w (va_A (gw n ad G0) (ad n))
theorem ctn_of {l : Launch} {y : MethodName} {ws ws' : List Cond} {rm : Room} {sa : Nat → Nat} {D : va_G} {tys : List (ClassId × FieldType)} {n k w hb : Nat} {ad : Nat → Nat} {G : Nat → va_E} {av : List Value} {rv : Option Value} {G2 : Nat → va_E} {cc : ByteArray} {maxL : Nat} {ret : Option FieldType} {own : String} (had : ∀ i, ad i = hb + i) (lv : List (Nat × Value)) (hy : plainName y.cls = true) (hw : ws = Cond.code y cc maxL ret :: ws') (ho : y.cls = own) (hlen : (lg_sl av).length ≤ maxL) (hlv : lv_args 0 av = lv)
    (body : ∀ (p : Program) (e : Env) (s : State) (m : MethodId) (args : Array Value) (below : List Frame) (meth : Method) (c : Code), GC p rm s m args meth c cc maxL ws own sa D tys (va_A (gw n ad G) (ad n)) → GA (va_A (gw n ad G) (ad n)) ad hb n s → meth.sig.returnType = ret → meth.locks = false → (y.name = "<init>" → meth.name = "<init>") → GV p l e rm s m args below meth c 0 0 (CQN below args s D n k w ad G rv G2) D (va_A (gw n ad G) (ad n)) maxL n ad G lv 0 []) : CTN l y ws rm sa D tys n k w ad G av rv G2 := by
  subst ho
  refine Met.ofW (cc := cc) (maxL := maxL) (ret := ret) hy hw ?_
  intro p e s m args below meth c s₁ B hml hv
  obtain ⟨⟨rfl, hsz, hP, hK, hD0, hN, hS⟩, hO⟩ := hv
  have hts := atoms_spec (ws := ws) B.pre
  have hown : s.vm.findClass y.cls = some m.cls := findClass_of_methodNamed B.named
  have hin : y.name = "<init>" → meth.name = "<init>" := fun h => (name_of_methodNamed B.named B.method).1.trans h
  have hl := lv_entry av (n := maxL) hlen
  rw [hlv] at hl
  rw [lg_entry_eq]
  have Z : GA (va_A (gw n ad G) (ad n)) ad hb n s := by
    have := GA.of (G := G) had hsz hO
    rw [hsz] at this
    exact this
  exact body p e s m _ below meth c ⟨B.exec, B.bytes, hml, hown, hts, hK, hN, hS, fun q h => Or.inr (by rw [← hsz]; exact h)⟩ Z B.returns B.notSynchronized hin s.heap [] _ hP hD0.self va_S.rf hl
theorem gwD_new {A : Nat → Prop} {n k hb : Nat} {ad : Nat → Nat} {G G2 : Nat → va_E} (had : ∀ i, ad i = hb + i) (hD : va_D A (gw n ad G)) (hA : ∀ i, n ≤ i → A (ad i)) : va_D A (gw (n + k) ad G2) := by
  refine ⟨fun i j p q hp hq he => ?_, fun i q hq => ?_⟩
  · obtain ⟨-, rfl⟩ := gw_inv hp
    obtain ⟨-, rfl⟩ := gw_inv hq
    have he : ad i = ad j := he
    rw [had, had] at he
    omega
  · obtain ⟨-, rfl⟩ := gw_inv hq
    by_cases h : i < n
    · exact hD.2 i (ad i, G i) (gw_get h)
    · exact hA i (by omega)
section GN3
variable {p : Program} {l : Launch} {e : Env} {R : Room} {s : State} {m : MethodId} {args : Array Value} {below : List Frame} {meth : Method} {c : Code} {cells slots : Nat} {Q : State → Prop}
variable {cc : ByteArray} {nL : Nat} {Ts : List Cond} {own : String} {sa : Nat → Nat} {D : va_G} {tys : List (ClassId × FieldType)} {A : Nat → Prop}
variable {pc n hb n0 : Nat} {ad : Nat → Nat} {G : Nat → va_E} {lv : List (Nat × Value)} {rest : List Value}
theorem g_callI (C : GC p R s m args meth c cc nL Ts own sa D tys A) (Z : GA A ad hb n0 s) (hn : n0 + cells = n) {y : MethodName} {bytes : ByteArray} {maxL index n1 i k w : Nat} {ws : List Cond} {rm : Room} {As : List Value} {G2 : Nat → va_E} {st0 : List Value} (hM : CTN l y ws rm sa D tys n k w ad G (.ref (ad i) :: As) none G2) (cw : CallB R s args own index y bytes maxL none ws rm k w n1 ∧ y.name = "<init>" ∧ (Cond.instanceMethod y).before args s = true) (hlen : As.length = n1) (hst : st0 = As.reverse ++ .ref (ad i) :: rest) (hW : (rest.map fun v => v.category).sum ≤ 8) (hdg : decode cc pc = .ok (.invokespecial index, 3)) (hce : cells + k ≤ R.cells) (hsl : slots + w ≤ R.slots)
    (kk : GV p l e R s m args below meth c (cells + k) (slots + w) Q D A nL (n + k) ad G2 lv (pc + 3) rest) : GV p l e R s m args below meth c cells slots Q D A nL n ad G lv pc st0 := by
  intro H locs ls hP hD hS hl T hT X
  have hH := gw_size Z hn hP hS hT X
  have pre : ∀ U : State, U.heap = H → s.WarmedH U.vm → CTpN sa D tys n ad G (.ref (ad i) :: As) (ad n) (.ref (ad i) :: As).toArray U := by
    rw [← hH]
    exact fun U hU hW => ⟨g_pre C hP hD hS U hU hW, va_AO.moved hW.alike Z.2.2.2.1, va_AO.moved hW.alike Z.2.2.2.2⟩
  have hf0 := gw_A hD hS C.hA
  rw [hH] at hf0
  obtain ⟨v, st₀, t, T', L, h0, X', hL, e1, e2, ⟨⟨hv, hP'⟩, hz, hk⟩, st⟩ := va_runI (rest := rest) (g := F0 m pc ls st0) C.fix hM cw ⟨CTpN.blind, pre⟩ rfl hlen hl.1 hst (lv_room hW) hdg ⟨hce, hsl⟩ T hT X
  have hv : v = none := Outcome.returned.inj hv
  subst hv
  rw [h0] at hz hk
  have hAd : ∀ j, n ≤ j → A (ad j) := fun j hj => C.hA _ (by have z1 := Z.2.1; have z2 := Z.1 j; have z3 := Z.1 n0; omega)
  obtain ⟨t2, a1, b1⟩ := kk T'.heap (locs ++ L) ls (by rw [e1]; exact hP') (gwD_new Z.1 hD hAd) ⟨Nat.le_trans hS.1 (by rw [e1]; exact hz), fun q h1 h2 => by rw [e1, hk q (Nat.lt_of_lt_of_le h1 hS.1) (fun z => h2 (hf0 q z))]; exact hS.2.1 q h1 h2, fun q hq => by
      rcases List.mem_append.mp hq with h | h
      · exact hS.2.2 q h
      · exact hf0 _ (hL q h)⟩ hl T' rfl X'
  exact ⟨t2, st t2 a1, b1⟩
theorem g_vretN {G0 G2 : Nat → va_E} {k w : Nat} (C : GC p R s m args meth c cc nL Ts own sa D tys (va_A (gw n0 ad G0) (ad n0))) (hr : meth.sig.returnType = none) (hlk : meth.locks = false) (hn : n0 + k = n) (e2 : ∀ i, i < n → G2 i = G i) (hdg : decode cc pc = .ok (.return_, 1)) : GV p l e R s m args below meth c k w (CQN below args s D n0 k w ad G0 none G2) D (va_A (gw n0 ad G0) (ad n0)) nL n ad G lv pc [] := fun H locs ls hP hD hS hl =>
  W.vret C.hx C.hb hr (fun t ht hW => ⟨⟨rfl, by rw [hn, gw_congr (ad' := ad) (G' := G) (fun i hi => ⟨rfl, e2 i hi⟩), ht]; exact hP⟩, hS.F ht⟩) hS.2.2 hdg hlk
/-- System.arraycopy out of a static row -/
theorem g_copyT (C : GC p R s m args meth c cc nL Ts own sa D tys A) (kq : Nat) {q : String × String × List Int32} (hq : svL[kq]? = some q) {index j n1 : Nat} {c1 : ClassId} {g : Nat → Int32} (t0 : Nat) (h1 : Cond.methodLink own index arraycopyName ∈ Ts) (h2 : Cond.native arraycopyName ∈ Ts) (h3 : Cond.static arraycopyName ∈ Ts) (h4 : Cond.initialized "java/lang/System" ∈ Ts) (hj : j < n) (hGj : G j = .inl (c1, n1, .inl g)) (ht1 : tys[t0]? = some (c1, .int)) {sp dp z : Int32} {zs zd zz : Nat} (k1 : ¬ sp < 0) (k2 : ¬ dp < 0) (k3 : ¬ z < 0) (i1 : sp.toInt = (zs : Int)) (i2 : dp.toInt = (zd : Int)) (i3 : z.toInt = (zz : Int)) (j1 : sp.toNatClampNeg = zs) (j2 : dp.toNatClampNeg = zd) (j3 : z.toNatClampNeg = zz) (k4 : zs + zz ≤ q.2.2.length) (k5 : zd + zz ≤ n1) (hfr : 1 ≤ R.frames) (hlo : (rest.map fun v => v.category).sum + (nativeFrameWords "java/lang/System" "arraycopy" 5 + 11) ≤ R.locals) (hdg : decode cc pc = .ok (.invokestatic index, 3))
    (kk : GV p l e R s m args below meth c cells slots Q D A nL n ad (va_up G j (.inl (c1, n1, .inl (va_cpy (fun x => q.2.2.getD x 0) g zs zd zz)))) (lv) (pc + 3) (rest)) : GV p l e R s m args below meth c cells slots Q D A nL n ad G (lv) (pc) (.int z :: .int dp :: .ref (ad j) :: .int sp :: .ref (sa kq) :: rest) := by
  intro H locs ls hP hD hS hl T hT X
  obtain ⟨scr, s1, ⟨s2, kA, s3, comp, s4⟩, s5, s6, -, s8, s9⟩ := (C.hS kq q hq).2
  have c0 : H[sa kq]? = some scr := (hS.2.1 _ (Array.getElem?_eq_some_iff.mp s1).1 s9).trans s1
  have c1' : H[ad j]? = some (vp_cell c1 (n1, .inl g)) := hP j _ (gw_at hj hGj)
  obtain ⟨-, kB, b1, comp2, b2⟩ := (C.hK.2 t0 _ ht1).1 n1 (fun x => .int (g x))
  have eS : vp_cell c1 (n1, .inl g) = arrV c1 n1 (fun x => .int (g x)) := rfl
  obtain ⟨vm', X', step⟩ := X.arraycopy C.hx C.hown (C.hts _ h1) (C.hts _ h2) (C.hts _ h3) (C.hts _ h4) (cs := scr) (cd := vp_cell c1 (n1, .inl g)) (srcPos := sp) (destPos := dp) (n := z) (by rw [hT]; exact c0) (by rw [hT]; exact c1') s2 (fun _ h => by cases h) s5 (fun h => by cases h) s3 b1 s4 b2 (by simp [refKind]) k1 k2 k3
    (by rw [i1, i3]; omega) (by rw [i2, i3, eS, arrV_size]; omega)
    (fun vm₁ _ x hx => by
      have ex : scr.slots.getD (sp.toNatClampNeg + x) .null = .int (q.2.2.getD (sp.toNatClampNeg + x) 0) := by
        rw [Array.getD_eq_getD_getElem?, s8 _ (by omega)]; rfl
      rw [ex]
      exact ⟨rfl, trivial⟩)
    (g := F0 m pc ls (.int z :: .int dp :: .ref (ad j) :: .int sp :: .ref (sa kq) :: rest)) rfl (by rw [C.hml, ← hl.1]) (rest := rest) rfl (by rw [C.hb]; exact hdg) hfr (by show 2 * 0 + _ + _ ≤ _; omega)
  have ec : copied scr (vp_cell c1 (n1, .inl g)) sp dp z = vp_cell c1 (n1, .inl (va_cpy (fun x => q.2.2.getD x 0) g sp.toNatClampNeg dp.toNatClampNeg z.toNatClampNeg)) := va_copiedX (fun x => .int x) scr c1 (fun x => q.2.2.getD x 0) g s8 (by omega)
  rw [ec, j1, j2, j3] at X' step
  have hlt : ad j < H.size := (Array.getElem?_eq_some_iff.mp c1').1
  have aj : A (ad j) := hD.2 j _ (gw_at hj hGj)
  generalize hE : vp_cell c1 (n1, .inl (va_cpy (fun x => q.2.2.getD x 0) g zs zd zz)) = E at X' step
  have hheap : ((T.setVm vm').setCell (ad j) E).heap = H.setIfInBounds (ad j) E := by rw [← hT]; rfl
  have oth : ∀ x : Nat, x ≠ ad j → (H.setIfInBounds (ad j) E)[x]? = H[x]? := fun x hx => by simp [Array.getElem?_setIfInBounds, Ne.symm hx]
  have same : (H.setIfInBounds (ad j) E)[ad j]? = some E := by simp [Array.getElem?_setIfInBounds, hlt]
  obtain ⟨t, a1, a2⟩ := kk _ _ ls (by rw [← gw_set hj]; exact hP.set hD (gw_at hj hGj) (show (H.setIfInBounds (ad j) E)[ad j]? = some _ from same.trans (by rw [← hE])) oth) (gw_D hD) ⟨by rw [Array.size_setIfInBounds]; exact hS.1, fun x g1 g2 => (oth x (fun e => g2 (by rw [e]; exact aj))).trans (hS.2.1 x g1 g2), fun x hx => by
      rcases List.mem_append.mp hx with h | h
      · exact hS.2.2 x h
      · obtain ⟨y, -, hy⟩ := List.mem_map.mp h
        rw [← hy]
        exact aj⟩ hl _ hheap X'
  exact ⟨t, step t a1, a2⟩
end GN3
