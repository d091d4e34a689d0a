/-! between two calls of the law: the state's row s, the snapshot's row p -/
def INV (ω : Mem) (s p : Nat → Int32) : Prop := SX 1 ω s ∧ SX 17 ω p ∧ JV s ∧ JV p ∧ ω 0 6 = 1 ∧ ω 118 1 = 0
theorem INV.sx {ω : Mem} {s p : Nat → Int32} (h : INV ω s p) : SX 1 ω s := h.1
theorem INV.lw {ω : Mem} {s p : Nat → Int32} {n : Nat} {rs : Nat → Nat → Int32} (h : INV ω s p) (q : HC ω n rs) : LW ω (gm s p) := by
  obtain ⟨h1, h2, h3, h4, h5, h6⟩ := h
  refine ⟨h1, ⟨by rw [h5]; rfl, fun _ => h2⟩, ⟨n, rs, q⟩, h6, ?_, fun j hj => absurd hj (Nat.not_lt_zero j)⟩
  exact rg_of (j := 0) (by decide) (by decide)
theorem INV.jc {ω : Mem} {s p : Nat → Int32} (h : INV ω s p) : JC 1 ω := by
  obtain ⟨t, -, r, -⟩ := h.1
  exact (JC.v r).mpr h.2.2.1
theorem INV.bs {ω : Mem} {s p : Nat → Int32} (h : INV ω s p) : ¬ bb (ω 0 6) = 0 := by
  rw [h.2.2.2.2.1]; decide
theorem INV.mv {ω ω' : Mem} {s s' p : Nat → Int32} (h : INV ω s p) (h1 : SX 1 ω' s') (h3 : JV s') (c : ∀ z, (z = 0 ∨ (17 ≤ z ∧ z < 33) ∨ 118 ≤ z) → ω' z = ω z) : INV ω' s' p := by
  obtain ⟨-, g2, -, g4, g5, g6⟩ := h
  exact ⟨h1, g2.congr (fun j hj => c _ (by omega)), h3, g4, by rw [c 0 (by omega)]; exact g5, by rw [c 118 (by omega)]; exact g6⟩
/-- the number of a row -/
def DG (s : Nat → Int32) : Int64 := dgm (gm s s)
theorem dig_inv {ω : Mem} {s p : Nat → Int32} {n : Nat} {rs : Nat → Nat → Int32} (h : INV ω s p) (q : HC ω n rs) : dig ω = DG s := (dig_eq (h.lw q)).trans (dgm_cg (μ := gm s s) (μ' := gm s p) rfl)
/-- an act that is not refused -/
theorem act_ok {v w : Int32} {ω : Mem} {s p : Nat → Int32} {n k : Nat} {rs : Nat → Nat → Int32} (h : INV ω s p) (q : HC ω n rs) (ha : ¬ (actF v w ω k).1 < 0) : ∃ (n' : Nat) (rs' : Nat → Nat → Int32), INV (actF v w ω k).2 ((actM v w (gm s p) k).2 121) p ∧ (n = 4 ∧ n' = 3 ∨ n ≠ 4 ∧ n' = n) ∧ n' ≤ 3 ∧ HC (actF v w ω k).2 (n' + 1) rs' ∧ rs' n' = s := by
  have hl := h.lw q
  rcases act_c (v := v) (w := w) hl h.jc h.bs h.2.1 h.2.2.2.1 k with ⟨a, b⟩ | ⟨a, b, c⟩
  · exact absurd a ha
  obtain ⟨n', rs', e1, e2, e3, e4, -, fr⟩ := q.rec h.1
  obtain ⟨-, ww⟩ := act_w (v := v) (w := w) hl k
  exact ⟨n', rs', h.mv ww.1 ((JC.v ww.rs).mp c) (fun z hz => (b z (by omega)).trans (fr z (by omega))), e1, e2, e3.congr (fun z h1 h2 => b z (by omega)), e4⟩
theorem act_no {v w : Int32} {ω : Mem} {s p : Nat → Int32} {n k : Nat} {rs : Nat → Nat → Int32} (h : INV ω s p) (q : HC ω n rs) (ha : (actF v w ω k).1 < 0) : (actF v w ω k).2 = ω := by
  rcases act_c (v := v) (w := w) (h.lw q) h.jc h.bs h.2.1 h.2.2.2.1 k with ⟨a, b⟩ | ⟨a, b, c⟩
  · exact b
  · exact absurd ha a
theorem act_ans {v w : Int32} {ω : Mem} {s p : Nat → Int32} {n k : Nat} {rs : Nat → Nat → Int32} (h : INV ω s p) (q : HC ω n rs) : (actF v w ω k).1 = (actM v w (gm s p) k).1 := (act_w (v := v) (w := w) (h.lw q) k).1
theorem undo_inv {ω : Mem} {s p : Nat → Int32} {n : Nat} {rs : Nat → Nat → Int32} (h : INV ω s p) (q : HC ω (n + 1) rs) (hj : JV (rs n)) : (f_X7_undo ω).1 = nI n ∧ INV (f_X7_undo ω).2 (rs n) p ∧ HC (f_X7_undo ω).2 n rs := by
  obtain ⟨ω', e, s1, hc, c⟩ := undo_at q
  rw [e]
  exact ⟨rfl, h.mv s1 hj (fun z hz => c z (by omega) (by omega)), hc⟩
theorem count13 (ω : Mem) : f_X7_count 13 ω = ω 52 1 := rfl
theorem count0 (ω : Mem) : f_X7_count 0 ω = ω 1 4 := rfl
/-- a look ahead -/
theorem clear_inv {ω : Mem} {s p : Nat → Int32} {n : Nat} {rs : Nat → Nat → Int32} (h : INV ω s p) (q : HC ω n rs) : ¬ 500 < (f_X7_clearIn ω).1 ∧ INV (f_X7_clearIn ω).2 s p ∧ HC (f_X7_clearIn ω).2 n rs := by
  obtain ⟨a, c⟩ := clear_at (h.lw q)
  exact ⟨a, h.mv (h.1.congr (fun j hj => c _ (by omega))) h.2.2.1 (fun z hz => c z (by omega)), q.congr (fun z h1 h2 => c z (by omega))⟩
/-- a snapshot is taken -/
theorem keep_sx {ω : Mem} {s : Nat → Int32} (h : SX 1 ω s) : SX 1 (f_X7_keep ω).2 s ∧ SX 17 (f_X7_keep ω).2 s ∧ (f_X7_keep ω).2 0 6 = 1 ∧ ∀ z, 33 ≤ z → (f_X7_keep ω).2 z = ω z := by
  have c : CF 17 ω (f_X5_copyFrom 17 1 ω) := CF.copy (by omega)
  have s17 : SX 17 (f_X5_copyFrom 17 1 ω) s := h.copy (by omega)
  have s1 : SX 1 (f_X5_copyFrom 17 1 ω) s := h.congr (fun j hj => c _ (by omega))
  have e : (f_X7_keep ω).2 = st (f_X5_copyFrom 17 1 ω) 0 6 1 := rfl
  rw [e]
  generalize f_X5_copyFrom 17 1 ω = ω' at *
  exact ⟨s1.congr (fun j hj => st_nei (by omega)), s17.congr (fun j hj => st_nei (by omega)), st_eq, fun z hz => (st_nei (by omega)).trans (c z (by omega))⟩
theorem keep_inv {ω : Mem} {s p : Nat → Int32} {n : Nat} {rs : Nat → Nat → Int32} (h : INV ω s p) (q : HC ω n rs) : INV (f_X7_keep ω).2 s s ∧ HC (f_X7_keep ω).2 n rs := by
  obtain ⟨a, b, c, d⟩ := keep_sx h.1
  exact ⟨⟨a, b, h.2.2.1, h.2.2.1, c, by rw [d 118 (by decide)]; exact h.2.2.2.2.2⟩, q.congr (fun z h1 h2 => d z (by omega))⟩
/-- ticks one part behind another -/
theorem pass_inv {ω : Mem} {s p : Nat → Int32} {n T t : Nat} {rs : Nat → Nat → Int32} {μ : Mem} (h : INV ω s p) (q : HC ω n rs) (hm : LW ω μ) (hT : μ 121 4 = nI T) (ht : 1 ≤ t ∧ t ≤ 200) (hT2 : T + t ≤ 99999) : ∃ (n' : Nat) (rs' : Nat → Nat → Int32), (f_X7_pass t ω).1 = f_X8_totals (tk t μ) - f_X8_totals μ ∧ LW (f_X7_pass t ω).2 (tk t μ) ∧ (tk t μ) 121 4 = nI (T + t) ∧ INV (f_X7_pass t ω).2 ((tk t μ) 121) p ∧ (n = 4 ∧ n' = 3 ∨ n ≠ 4 ∧ n' = n) ∧ n' ≤ 3 ∧ HC (f_X7_pass t ω).2 (n' + 1) rs' ∧ rs' n' = s ∧ ∀ j, j < n' → rs' j = if n = 4 then rs (j + 1) else rs j := by
  obtain ⟨ω', e, l, e4, c, j, -⟩ := tk0 hm hT ht h.jc hT2
  obtain ⟨n', rs', e1, e2, e3, e5, e6, fr⟩ := q.rec h.1
  rw [e]
  exact ⟨n', rs', rfl, l, e4, h.mv l.1 ((JC.v l.rs).mp j) (fun z hz => (c z (by omega)).trans (fr z (by omega))), e1, e2, e3.congr (fun z h1 h2 => c z (by omega)), e5, e6⟩
/-- the whole check: what isWhole sees, step by step -/
theorem whole_inv {ω : Mem} {s p : Nat → Int32} {n T a b : Nat} {rs : Nat → Nat → Int32} (h : INV ω s p) (q : HC ω n rs) (hT : s 4 = nI T) (ha : 1 ≤ a ∧ a ≤ 9) (hb : 1 ≤ b ∧ b ≤ 30) (hT2 : T + a + b ≤ 99999) :
    ∃ ω1 ω2 ω3 ω4 ω5 ω6 : Mem, (f_X7_pass a ω).2 = ω1 ∧ (f_X7_pass b ω1).2 = ω2 ∧ (f_X7_undo ω2).2 = ω3 ∧ (f_X7_undo ω3).2 = ω4 ∧ (f_X7_pass (a + b) ω4).2 = ω5 ∧ (f_X7_undo ω5).2 = ω6 ∧
    hstP ω1 ∧ hstP ω2 ∧ hstP ω3 ∧ hstP ω4 ∧ hstP ω5 ∧ (f_X7_pass (a + b) ω4).1 = (f_X7_pass a ω).1 + (f_X7_pass b ω1).1 ∧ dig ω5 = dig ω2 ∧ dig ω6 = dig ω4 ∧ INV ω6 s p ∧ ∃ (m : Nat) (rs2 : Nat → Nat → Int32), HC ω6 m rs2 := by
  have hl := h.lw q
  have g4 : (gm s p) 121 4 = nI T := hT
  obtain ⟨n1, rs1, a1, a2, a3, a4, a5, a6, a7, a8, a9⟩ := pass_inv (t := a) h q hl g4 (by omega) (by omega)
  generalize hp1 : f_X7_pass a ω = P1 at *
  obtain ⟨n2, rs2, b1, b2, b3, b4, b5, b6, b7, b8, b9⟩ := pass_inv (t := b) a4 a7 a2 a3 (by omega) (by omega)
  generalize hp2 : f_X7_pass b P1.2 = P2 at *
  have j2 : JV (rs2 n2) := by rw [b8]; exact a4.2.2.1
  obtain ⟨-, c1, c2⟩ := undo_inv b4 b7 j2
  generalize hp3 : (f_X7_undo P2.2).2 = ω3 at *
  obtain ⟨m2, em2⟩ : ∃ m, n2 = m + 1 := ⟨n2 - 1, by omega⟩
  subst em2
  have r2 : rs2 m2 = s := by
    rw [b9 m2 (by omega)]
    by_cases z : n1 + 1 = 4
    · rw [if_pos z, show m2 + 1 = n1 by omega]; exact a8
    · rw [if_neg z, show m2 = n1 by omega]; exact a8
  have j3 : JV (rs2 m2) := by rw [r2]; exact h.2.2.1
  obtain ⟨-, d1, d2⟩ := undo_inv c1 c2 j3
  rw [r2] at d1
  generalize hp4 : (f_X7_undo ω3).2 = ω4 at *
  have l4 := d1.lw d2
  obtain ⟨n5, rs5, e1, e2, e3, e4, e5, e6, e7, e8, -⟩ := pass_inv (t := a + b) d1 d2 l4 g4 (by omega) (by omega)
  generalize hp5 : f_X7_pass (a + b) ω4 = P5 at *
  have j5 : JV (rs5 n5) := by rw [e8]; exact h.2.2.1
  obtain ⟨-, f1, f2⟩ := undo_inv e4 e7 j5
  rw [e8] at f1
  rw [tk_add] at e1 e2
  refine ⟨P1.2, P2.2, ω3, ω4, P5.2, (f_X7_undo P5.2).2, rfl, by rw [hp2], hp3, hp4, by rw [hp5], rfl, a2.hst, b2.hst, (c1.lw c2).hst, l4.hst, e2.hst, ?_, ?_, ?_, f1, _, _, f2⟩
  · rw [hp5, hp2, e1, a1, b1]
    rw [Int32.sub_eq_add_neg, Int32.sub_eq_add_neg, Int32.sub_eq_add_neg]
    generalize f_X8_totals (tk a (gm s p)) = y
    generalize f_X8_totals (tk b (tk a (gm s p))) = z
    generalize f_X8_totals (gm s p) = x
    rw [show y + -x + (z + -y) = (z + -x) + (y + -y) by ac_rfl, ← Int32.sub_eq_add_neg y y, Int32.sub_self, Int32.add_zero]
  · rw [dig_eq e2, dig_eq b2]
  · rw [dig_inv f1 f2, dig_inv d1 d2]
