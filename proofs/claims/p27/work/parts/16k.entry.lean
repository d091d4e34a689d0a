/-! what holds at the law's entry: classes, rows' classes, statics, nest mates' links -/
theorem kx_arr {args : Array Value} {s : State} {ty : FieldType} (h : (Cond.arrayClass ty).before args s = true) : ∃ cA, ArrOfT s cA ty ∧ s.vm.findClass ("[" ++ ty.toString) = some cA := by
  obtain ⟨cA, kA, comp, h1, h2, h3⟩ := Cond.arrayClass_spec h
  exact ⟨cA, fun N z => ⟨fun k h => (by cases h), kA, h2, comp, h3⟩, h1⟩
theorem kx_ao {C : String} {s : State} (h : va_AO C s) : ∃ cA, ArrOfT s cA (.object C) ∧ va_RA s cA (.object C) := by
  obtain ⟨comp, cA, kA, h1, -, h2, h3, h4⟩ := Cond.arrayOver_spec h
  exact ⟨cA, fun N z => ⟨fun k h => (by cases h), kA, h2, comp, h3⟩, kA, comp, h2, h3, h1, h4⟩
abbrev LA (s : State) : Nat → Prop := fun q => s.heap.size ≤ q
theorem kx_iX0 : Cond.instantiable RX0 10 ∈ lw_tbl := by decide +kernel
theorem kx_iX1 : Cond.instantiable RX1 2 ∈ lw_tbl := by decide +kernel
theorem kx_iX2 : Cond.instantiable RX2 5 ∈ lw_tbl := by decide +kernel
theorem kx_iX3 : Cond.instantiable RX3 3 ∈ lw_tbl := by decide +kernel
theorem kx_iX4 : Cond.instantiable RX4 1 ∈ lw_tbl := by decide +kernel
theorem kx_iX5 : Cond.instantiable RX5 8 ∈ lw_tbl := by decide +kernel
theorem kx_iX6 : Cond.instantiable RX6 2 ∈ lw_tbl := by decide +kernel
theorem kx_iX7 : Cond.instantiable RX7 7 ∈ lw_tbl := by decide +kernel
theorem kx_a0 : Cond.arrayClass .int ∈ lw_tbl := by decide +kernel
theorem kx_a1 : Cond.arrayClass .char ∈ lw_tbl := by decide +kernel
theorem kx_a2 : Cond.arrayOver (.object RX0) ∈ lw_tbl := by decide +kernel
theorem kx_a3 : Cond.arrayOver (.object RX5) ∈ lw_tbl := by decide +kernel
theorem kx_K {args : Array Value} {s : State} (ht : ∀ w ∈ lw_tbl, w.before args s = true) : ∃ (D : va_G) (X : Nat → ClassId), va_K D vwCl (tyX X) s := by
  obtain ⟨c0, i0, k0⟩ := u_known (C := RX0) (T := TX0) (N := 10) (n := 10) ht inX0 (ht _ kx_iX0)
  obtain ⟨c1, i1, k1⟩ := u_known (C := RX1) (T := TX1) (N := 2) (n := 2) ht inX1 (ht _ kx_iX1)
  obtain ⟨c2, i2, k2⟩ := u_known (C := RX2) (T := TX2) (N := 5) (n := 5) ht inX2 (ht _ kx_iX2)
  obtain ⟨c3, i3, k3⟩ := u_known (C := RX3) (T := TX3) (N := 3) (n := 3) ht inX3 (ht _ kx_iX3)
  obtain ⟨c4, i4, k4⟩ := u_known (C := RX4) (T := TX4) (N := 1) (n := 1) ht inX4 (ht _ kx_iX4)
  obtain ⟨c5, i5, k5⟩ := u_known (C := RX5) (T := TX5) (N := 8) (n := 8) ht inX5 (ht _ kx_iX5)
  obtain ⟨c6, i6, k6⟩ := u_known (C := RX6) (T := TX6) (N := 2) (n := 2) ht inX6 (ht _ kx_iX6)
  obtain ⟨c7, i7, k7⟩ := u_known (C := RX7) (T := TX7) (N := 7) (n := 7) ht inX7 (ht _ kx_iX7)
  obtain ⟨a0, x0, y0⟩ := kx_arr (ht _ kx_a0)
  obtain ⟨a1, x1, y1⟩ := kx_arr (ht _ kx_a1)
  obtain ⟨a2, x2, y2⟩ := kx_ao (va_AO.of (ht _ kx_a2))
  obtain ⟨a3, x3, y3⟩ := kx_ao (va_AO.of (ht _ kx_a3))
  refine ⟨(fun k => match k with | 0 => c0 | 1 => c1 | 2 => c2 | 3 => c3 | 4 => c4 | 5 => c5 | 6 => c6 | _ => c7, fun k => match k with | 0 => i0 | 1 => i1 | 2 => i2 | 3 => i3 | 4 => i4 | 5 => i5 | 6 => i6 | _ => i7), fun k => match k with | 0 => a0 | 1 => a1 | 2 => a2 | _ => a3, ?_, ?_⟩
  · intro k q hq
    match k, hq with
    | 0, hq => cases hq; exact k0
    | 1, hq => cases hq; exact k1
    | 2, hq => cases hq; exact k2
    | 3, hq => cases hq; exact k3
    | 4, hq => cases hq; exact k4
    | 5, hq => cases hq; exact k5
    | 6, hq => cases hq; exact k6
    | 7, hq => cases hq; exact k7
    | k + 8, hq => simp [vwCl] at hq
  · intro k q hq
    match k, hq with
    | 0, hq => cases hq; exact ⟨x0, y0⟩
    | 1, hq => cases hq; exact ⟨x1, y1⟩
    | 2, hq => cases hq; exact ⟨x2, y2⟩
    | 3, hq => cases hq; exact ⟨x3, y3⟩
    | k + 4, hq => simp at hq
theorem kx_n : ∀ q ∈ nwL, Cond.methodLinkNest q.1 q.2.1 q.2.2 "FlameGuards" ∈ lw_tbl := by decide +kernel
theorem kx_N {args : Array Value} {s : State} (ht : ∀ w ∈ lw_tbl, w.before args s = true) : GN s := fun q hq => va_tabs rfl rfl (ht _ (kx_n q hq))
theorem kx_st : ∀ q ∈ svL, Cond.laysStatic q.1 q.2.1 "[I" ∈ lw_tbl ∧ Cond.initialized q.1 ∈ lw_tbl := by decide +kernel
def kx_fl : List Cond := flatC (Cond.and given_1 narrow_1)
theorem kx_nw : ∀ q ∈ svL, Cond.arrayOf (.static q.1 q.2.1 "[I") .int ∈ kx_fl ∧ Cond.eq (.length (.static q.1 q.2.1 "[I")) (.int (Int32.ofNat q.2.2.length)) ∈ kx_fl ∧ (∀ j, j < q.2.2.length → Cond.eq (.elem (.static q.1 q.2.1 "[I") (.int (Int32.ofNat j))) (.int (q.2.2.getD j 0)) ∈ kx_fl) ∧ q.2.2.length < 2 ^ 31 := by decide +kernel
theorem kx_S {args : Array Value} {s : State} (ht : ∀ w ∈ lw_tbl, w.before args s = true) (hg : (Cond.and given_1 narrow_1).before args s = true) : ∃ sa, GS sa (LA s) s s.heap := by
  have hf : ∀ w ∈ kx_fl, w.before args s = true := flat_of_before _ hg
  have h : ∀ k : Nat, ∃ t : Nat, ∀ q : String × String × List Int32, svL[k]? = some q → va_Z q.1 q.2.1 "[I" (.ref t) (LA s) s s.heap ∧ va_T .int t q.2.2.length (fun j => .int (q.2.2.getD j 0)) (LA s) s s.heap := by
    intro k
    cases hk : svL[k]? with
    | none => exact ⟨0, fun q hq => by cases hq⟩
    | some q =>
      have hm : q ∈ svL := List.mem_of_getElem? hk
      obtain ⟨n1, n2, n3, n4⟩ := kx_nw q hm
      obtain ⟨s1, s2⟩ := kx_st q hm
      obtain ⟨t, h1, h2⟩ := va_Tof (A := LA s) (f := fun j => .int (q.2.2.getD j 0)) n4 (hf _ n1) (va_eqt (hf _ n2)) (fun j hj => va_eqt (hf _ (n3 j hj))) (fun a h => Nat.not_le.mpr h)
      exact ⟨t, fun q' hq' => by cases hq'; exact ⟨va_Zof (ht _ s1) (ht _ s2) h1 (fun a h => Nat.not_le.mpr h), h2⟩⟩
  exact ⟨fun k => Classical.choose (h k), fun k q hq => Classical.choose_spec (h k) q hq⟩
