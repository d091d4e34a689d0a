/-! new cells: the addresses follow one another -/
theorem gw_push2 {n : Nat} {ad : Nat → Nat} {G : Nat → va_E} {x : va_E} : gw n ad G ++ [(ad n, x)] = gw (n + 1) ad (va_up G n x) := by
  rw [gw_push]
  congr 1
  funext i
  by_cases h : i = n
  · rw [h]; exact if_pos rfl
  · exact if_neg h
/-- the frame started at n0 cells, cell i lies at hb + i, and what may be written is those cells and what is new -/
def GA (A : Nat → Prop) (ad : Nat → Nat) (hb n0 : Nat) (s : State) : Prop := (∀ i, ad i = hb + i) ∧ s.heap.size = ad n0 ∧ (∀ q, A q → (∃ k, k < n0 ∧ q = ad k) ∨ ad n0 ≤ q) ∧ va_AO RX0 s ∧ va_AO RX5 s
theorem GA.of {ad : Nat → Nat} {hb n0 : Nat} {s : State} {G : Nat → va_E} (had : ∀ i, ad i = hb + i) (hs : s.heap.size = ad n0) (hO : va_AO RX0 s ∧ va_AO RX5 s) : GA (va_A (gw n0 ad G) s.heap.size) ad hb n0 s := by
  refine ⟨had, hs, fun q h => ?_, hO⟩
  rcases h with ⟨k, x, h⟩ | h
  · obtain ⟨h1, h2⟩ := gw_inv h
    injection h2 with h2 h3
    exact Or.inl ⟨k, h1, h2⟩
  · exact Or.inr (by rw [← hs]; exact h)
theorem va_RA_one {U : State} {a b : ClassId} {ty : FieldType} (h1 : va_RA U a ty) (h2 : va_RA U b ty) : a = b := by
  cases ty with
  | object C =>
    obtain ⟨_, _, _, _, _, e1⟩ := h1
    obtain ⟨_, _, _, _, _, e2⟩ := h2
    exact Option.some.inj (e1.symm.trans e2)
  | _ => exact Option.some.inj (Eq.trans (Eq.symm h1) h2)
section GN2
variable {p : Program} {l : Launch} {e : Env} {R : Room} {s : State} {m : MethodId} {args : Array Value} {below : List Frame} {meth : Method} {c : Code} {cells slots : Nat} {Q : State → Prop}
variable {cc : ByteArray} {nL : Nat} {Ts : List Cond} {own : String} {sa : Nat → Nat} {D : va_G} {tys : List (ClassId × FieldType)} {A : Nat → Prop}
variable {pc n hb n0 : Nat} {ad : Nat → Nat} {G : Nat → va_E} {lv : List (Nat × Value)} {rest : List Value}
theorem gw_size {T : State} {H : Heap} {locs : List Loc} (Z : GA A ad hb n0 s) (hn : n0 + cells = n) (hP : va_P D vwCl (gw n ad G) H) (hS : va_S A s.heap H locs) (hT : T.heap = H) (X : Stand p l e R s m args below meth c T locs cells slots) : H.size = ad n := by
  obtain ⟨had, hs, -⟩ := Z
  have h1 := X.heapSize
  rw [hT, hs, had] at h1
  have h2 := hS.1
  rw [hs, had] at h2
  rw [had]
  by_cases h0 : cells = 0
  · omega
  · have h3 : ad (n - 1) < H.size := (hP (n - 1) _ (gw_get (by omega))).lt
    rw [had] at h3
    omega
theorem gw_new {q : Nat} {H : Heap} {T : State} {locs : List Loc} {x : va_E} (Z : GA A ad hb n0 s) (hn : n0 + cells = n) (hP : va_P D vwCl (gw n ad G ++ [(q, x)]) H) (hD : va_D A (gw n ad G ++ [(q, x)])) (hT : T.heap = H) (X : Stand p l e R s m args below meth c T locs (cells + 1) slots) : q = ad n := by
  obtain ⟨had, hs, hA, -⟩ := Z
  have hlen : (gw n ad G).length = n := by simp [gw]
  have hq : (gw n ad G ++ [(q, x)])[n]? = some (q, x) := by rw [List.getElem?_append_right (by omega), hlen]; simp
  have h1 := X.heapSize
  rw [hT, hs, had] at h1
  have h2 : q < H.size := (hP n _ hq).lt
  have ne : ∀ k, k < n → q ≠ ad k := fun k hk ek => by
    have hk2 : (gw n ad G ++ [(q, x)])[k]? = some (ad k, G k) := by rw [List.getElem?_append_left (by omega)]; exact gw_get hk
    have := hD.1 n k _ _ hq hk2 ek
    omega
  rw [had]
  rcases hA q (hD.2 n _ hq) with ⟨k, k1, k2⟩ | k1
  · exact absurd k2 (ne k (by omega))
  · rw [had] at k1
    by_cases z : q < hb + n
    · have := ne (q - hb) (by omega)
      rw [had] at this
      omega
    · omega
theorem g_new (C : GC p R s m args meth c cc nL Ts own sa D tys A) (Z : GA A ad hb n0 s) (hn : n0 + cells = n) {C0 : String} {T : u_T} {N ci index : Nat} (hin : ∀ w ∈ u_ws C0 T N, w ∈ Ts) (ty0 : Nat → FieldType) (hty : ∀ k, k < N → parseFieldDescriptor (T k).2.2.1 = some (ty0 k)) (hcl : Cond.classLink own index C0 ∈ Ts) (hinst : Cond.instantiable C0 N ∈ Ts) (hini : Cond.initialized C0 ∈ Ts) (hc : vwCl[ci]? = some (C0, T, N)) {fs : List Value} (hfs : ∀ j, j < N → defaultValue (ty0 j) = vp_V fs j) (hcells : cells + 1 ≤ R.cells) (hslots : slots + N ≤ R.slots) (hdg : decode cc pc = .ok (.new index, 3))
    (kk : GV p l e R s m args below meth c (cells + 1) (slots + N) Q D A nL (n + 1) ad (va_up G n (.inr (ci, fs))) lv (pc + 3) (.ref (ad n) :: rest)) : GV p l e R s m args below meth c cells slots Q D A nL n ad G lv pc rest := by
  intro H locs ls hP hD hS hl
  refine va_new C.hx C.hb C.hts hin ty0 hty C.hown (C.hts _ hcl) (C.hts _ hinst) (C.hts _ hini) C.hK hP hD hS C.hA hc hfs hcells hslots hdg (fun q H1 hP1 hD1 hS1 => ?_)
  intro T1 hT1 X1
  have hq := gw_new Z hn hP1 hD1 hT1 X1
  subst hq
  rw [gw_push2] at hP1 hD1
  exact kk H1 locs ls hP1 hD1 hS1 hl T1 hT1 X1
theorem g_newa (C : GC p R s m args meth c cc nL Ts own sa D tys A) (Z : GA A ad hb n0 s) (hn : n0 + cells = n) {atype : ArrayType} {ty : FieldType} (hty : newarray.typeOf atype = ty) (harr : Cond.arrayClass ty ∈ Ts) (t0 : Nat) {cA : ClassId} (ht : tys[t0]? = some (cA, ty)) {z : Int32} {N' : Nat} {a0 : vp_A} (ha : ∀ cA : ClassId, vp_cell cA a0 = arrV cA N' (fun _ => defaultValue ty)) (hz : ¬ z < 0) (hN : z.toNatClampNeg = N') (hbytes : N' * componentBytes ty ≤ 536870912) (hcells : cells + 1 ≤ R.cells) (hslots : slots + N' ≤ R.slots) (hdg : decode cc pc = .ok (.newarray atype, 2))
    (kk : GV p l e R s m args below meth c (cells + 1) (slots + N') Q D A nL (n + 1) ad (va_up G n (.inl (cA, a0))) lv (pc + 2) (.ref (ad n) :: rest)) : GV p l e R s m args below meth c cells slots Q D A nL n ad G lv pc (.int z :: rest) := by
  intro H locs ls hP hD hS hl
  subst hty
  refine va_newa C.hx C.hb (C.hts _ harr) rfl C.hK hP hD hS C.hA ha hz hN hbytes hcells hslots hdg (fun q cB H1 hK1 hP1 hD1 hS1 => ?_)
  intro T1 hT1 X1
  have hq := gw_new Z hn hP1 hD1 hT1 X1
  subst hq
  have e2 : cB = cA := by
    have k1 := (hK1.2 tys.length (cB, newarray.typeOf atype) (by rw [List.getElem?_append_right (Nat.le_refl _), Nat.sub_self]; rfl)).2
    exact va_RA_one k1 (C.hK.2 t0 _ ht).2
  subst e2
  rw [gw_push2] at hP1 hD1
  exact kk H1 locs ls hP1 hD1 hS1 hl T1 hT1 X1
theorem g_newq (C : GC p R s m args meth c cc nL Ts own sa D tys A) (Z : GA A ad hb n0 s) (hn : n0 + cells = n) {C0 : String} {index : Nat} (hcl : Cond.classLink own index C0 ∈ Ts) (hover : va_AO C0 s) (t0 : Nat) {cA : ClassId} (ht : tys[t0]? = some (cA, .object C0)) {z : Int32} {N' : Nat} (hz : ¬ z < 0) (hN : z.toNatClampNeg = N') (hbytes : N' * 4 ≤ 536870912) (hcells : cells + 1 ≤ R.cells) (hslots : slots + N' ≤ R.slots) (hdg : decode cc pc = .ok (.anewarray index, 3))
    (kk : GV p l e R s m args below meth c (cells + 1) (slots + N') Q D A nL (n + 1) ad (va_up G n (.inl (cA, N', .inr (.inr (.inr (.inr (fun _ => none))))))) lv (pc + 3) (.ref (ad n) :: rest)) : GV p l e R s m args below meth c cells slots Q D A nL n ad G lv pc (.int z :: rest) := by
  intro H locs ls hP hD hS hl
  refine va_newq C.hx C.hb C.hown (C.hts _ hcl) hover C.hK hP hD hS C.hA hz hN hbytes hcells hslots hdg (fun q cB H1 hK1 hP1 hD1 hS1 => ?_)
  intro T1 hT1 X1
  have hq := gw_new Z hn hP1 hD1 hT1 X1
  subst hq
  have e2 : cB = cA := by
    have k1 := (hK1.2 tys.length (cB, FieldType.object C0) (by rw [List.getElem?_append_right (Nat.le_refl _), Nat.sub_self]; rfl)).2
    exact va_RA_one k1 (C.hK.2 t0 _ ht).2
  subst e2
  rw [gw_push2] at hP1 hD1
  exact kk H1 locs ls hP1 hD1 hS1 hl T1 hT1 X1
theorem g_obj (C : GC p R s m args meth c cc nL Ts own sa D tys A) {idx a : Nat} (h1 : Cond.methodLink own idx Lib.objectInit ∈ Ts) (h2 : Cond.instanceMethod Lib.objectInit ∈ Ts) (h3 : Cond.code Lib.objectInit ⟨#[0xb1]⟩ 1 none ∈ Ts) (hfr : 1 ≤ R.frames) (hlo : (rest.map fun v => v.category).sum + 12 ≤ R.locals) (hdg : decode cc pc = .ok (.invokespecial idx, 3))
    (kk : GV p l e R s m args below meth c cells slots Q D A nL n ad G lv (pc + 3) rest) : GV p l e R s m args below meth c cells slots Q D A nL n ad G lv pc (.ref a :: rest) := fun H locs ls hP hD hS hl =>
  W.objInit C.hx C.hb C.hown (C.hts _ h1) (C.hts _ h2) (C.hts _ h3) (g := F0 m pc ls (.ref a :: rest)) rfl (hl.1.trans C.hml.symm) rfl hdg hfr (by show 2 * 0 + _ + 12 ≤ _; omega) (kk H locs ls hP hD hS hl)
end GN2
