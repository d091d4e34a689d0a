def TXR (ω μ : Mem) : Prop := ω 118 1 = μ 120 8 ∧ rg (μ 120 8) 60 ∧ ∀ j, j < (μ 120 8).toNatClampNeg → ω 119 j = μ 125 j
/-- the class (memory ω) and the model (memory μ) stand alike -/
def LW (ω μ : Mem) : Prop := SX 1 ω (μ 121) ∧ (bb (ω 0 6) = bb (μ 120 6) ∧ (¬ bb (μ 120 6) = 0 → SX 17 ω (μ 124))) ∧ HW ω μ ∧ TXR ω μ
theorem LW.th {ω μ : Mem} (h : LW ω μ) : LW ω (st μ 120 0 0) := ⟨h.1, h.2.1, h.2.2.1.congr (fun _ _ _ => rfl) rfl rfl, h.2.2.2⟩
/-- a new state, nothing else -/
theorem LW.st1 {ω μ ω' μ' : Mem} (h : LW ω μ) (hS : SX 1 ω' (μ' 121)) (c : CF 1 ω ω') (m : ∀ i, i ≠ 121 → μ' i = μ i) : LW ω' μ' := by
  refine ⟨hS, ⟨?_, fun q => ?_⟩, h.2.2.1.congr (fun z h1 h2 => c z (by omega)) (by rw [m 120 (by decide)]) (m 123 (by decide)), ?_, ?_, fun j hj => ?_⟩
  · rw [c 0 (by omega), m 120 (by decide)]; exact h.2.1.1
  · rw [m 120 (by decide)] at q
    rw [m 124 (by decide)]
    exact (h.2.1.2 q).congr (fun j hj => c _ (by omega))
  · rw [c 118 (by omega), m 120 (by decide)]; exact h.2.2.2.1
  · rw [m 120 (by decide)]; exact h.2.2.2.2.1
  · rw [m 120 (by decide)] at hj
    rw [c 119 (by omega), m 125 (by decide)]; exact h.2.2.2.2.2 j hj
theorem LW.cl {ω μ ω' : Mem} (h : LW ω μ) (c : ∀ z, z < 120 → ω' z = ω z) : LW ω' μ := by
  refine ⟨h.1.congr (fun j hj => c _ (by omega)), ⟨?_, fun q => (h.2.1.2 q).congr (fun j hj => c _ (by omega))⟩, h.2.2.1.congr (fun z h1 h2 => c z (by omega)) rfl rfl, ?_, h.2.2.2.2.1, fun j hj => ?_⟩
  · rw [c 0 (by decide)]; exact h.2.1.1
  · rw [c 118 (by decide)]; exact h.2.2.2.1
  · rw [c 119 (by decide)]; exact h.2.2.2.2.2 j hj
theorem LW.ml {ω μ μ' : Mem} (h : LW ω μ) (c : ∀ z, 120 ≤ z → μ' z = μ z) : LW ω μ' := by
  unfold LW TXR
  rw [c 121 (by decide), c 120 (by decide), c 124 (by decide), c 125 (by decide)]
  exact ⟨h.1, h.2.1, h.2.2.1.congr (fun _ _ _ => rfl) (by rw [c 120 (by decide)]) (c 123 (by decide)), h.2.2.2⟩
theorem LW.hst {ω μ : Mem} (h : LW ω μ) : hstP ω := by
  obtain ⟨n, rs, q⟩ := h.2.2.1
  exact fun j hj => (q.1 j hj).S
theorem LW.sm {ω μ : Mem} (h : LW ω μ) : ∃ t, t ≤ 99999 ∧ SM 1 t (56 * t) ω μ := by
  obtain ⟨t, h1, h2, h3⟩ := h.1
  exact ⟨t, h1, h2, h3⟩
theorem LW.rs {ω μ : Mem} (h : LW ω μ) : RS 1 ω (μ 121) := by
  obtain ⟨t, h1, h2, h3⟩ := h.1
  exact h2
theorem LW.ib {ω μ : Mem} (h : LW ω μ) {k : Nat} (hk : k < 4) : IB (μ 121) k := by
  obtain ⟨t, h1, h2⟩ := h.sm
  exact h2.ib hk
theorem LW.rec {ω μ : Mem} (h : LW ω μ) : LW (f_X1_record 1 ω) (f_X8_records μ) := by
  obtain ⟨a, b⟩ := recW h.2.2.1 h.1
  obtain ⟨r1, r2⟩ := records_fr μ
  refine ⟨?_, ⟨?_, fun q => ?_⟩, a, ?_, ?_, fun j hj => ?_⟩
  · rw [records_121]; exact h.1.congr (fun j hj => b _ (by omega))
  · rw [b 0 (by omega), r2 6 (by decide)]; exact h.2.1.1
  · rw [r2 6 (by decide)] at q
    rw [r1 124 (by decide) (by decide)]
    exact (h.2.1.2 q).congr (fun j hj => b _ (by omega))
  · rw [b 118 (by omega), r2 8 (by decide)]; exact h.2.2.2.1
  · rw [r2 8 (by decide)]; exact h.2.2.2.2.1
  · rw [r2 8 (by decide)] at hj
    rw [b 119 (by omega), r1 125 (by decide) (by decide)]; exact h.2.2.2.2.2 j hj
theorem rec_hi {ω μ : Mem} (h : LW ω μ) : ∀ z, 120 ≤ z → (f_X1_record 1 ω) z = ω z := fun z hz => (recW h.2.2.1 h.1).2 z (by omega)
theorem recs_lo (μ : Mem) : ∀ z, z < 120 → (f_X8_records μ) z = μ z := fun z hz => (records_fr μ).1 z (by omega) (by omega)
theorem LW.lay {ω μ : Mem} {k w : Nat} {v v' : Int32} (h : LW ω μ) (hk : k < 4) (hw : w < 10) (hv : cv w v = v') (hI : IB (upd (μ 121) (68 + 10 * k + w) v') k) : LW (st ω (5 + k) w v) (f_X8_lay k w v' μ) := by
  obtain ⟨t, h1, h2⟩ := h.sm
  have h3 := h2.lay hk hw hv hI
  exact h.st1 ⟨t, h1, h3.1, h3.2⟩ (CF.s (by omega)) MF.lay.1
/-- an act's two ends -/
def OPW (ω μ : Mem) (a b : Int32 × Mem) : Prop := a.1 = b.1 ∧ LW a.2 b.2 ∧ (∀ z, 120 ≤ z → a.2 z = ω z) ∧ ∀ z, z < 120 → b.2 z = μ z
theorem OPW.th {ω μ : Mem} {a b : Int32 × Mem} (h : OPW ω (st μ 120 0 0) a b) : OPW ω μ a b := ⟨h.1, h.2.1, h.2.2.1, fun z hz => (h.2.2.2 z hz).trans (st_nei (by omega))⟩
theorem OPW.same {ω μ : Mem} {r : Int32} (h : LW ω μ) : OPW ω μ (r, ω) (r, μ) := ⟨rfl, h, fun _ _ => rfl, fun _ _ => rfl⟩
theorem OPW.eq {ω μ : Mem} {r r' : Int32} (h : LW ω μ) (e : r = r') : OPW ω μ (r, ω) (r', μ) := ⟨e, h, fun _ _ => rfl, fun _ _ => rfl⟩
theorem isB_ok {k : Nat} {μ : Mem} (hk : k < 4) : ¬ f_X8_isBurner (nI k) μ = 0 := by
  unfold f_X8_isBurner f_X8_in
  rw [if_neg (nI_pos (by omega)), if_neg]
  · decide
  · exact nI_nlt (a := 3) (b := k) (by omega) (by decide)
theorem isW_in {v a b : Int32} {ω μ : Mem} : f_X7_isWithin v a b ω = f_X8_in v a b μ := rfl
theorem lay_same {k w : Nat} {μ : Mem} : f_X8_lay k w (f_X8_get k w μ) μ = μ := by
  unfold f_X8_lay f_X8_get st va_up upd
  funext i j
  by_cases hi : i = 121
  · rw [if_pos hi, hi]
    by_cases hj : j = 68 + 10 * k + w
    · rw [if_pos hj, hj]
    · rw [if_neg hj]
  · rw [if_neg hi]
theorem lay_lo {k w : Nat} {v : Int32} {μ : Mem} : ∀ z, z < 120 → (f_X8_lay k w v μ) z = μ z := fun z hz => st_nei (by omega)
theorem IB.f0 {s : Nat → Int32} {k : Nat} {v : Int32} (h : IB s k) (hv : rg v 2) : IB (upd s (68 + 10 * k + 0) v) k := by
  unfold IB
  rw [pk_us, pk_un (by omega), pk_un (by omega), pk_un (by omega)]
  exact ⟨hv, h.2⟩
theorem IB.f1 {s : Nat → Int32} {k : Nat} {v : Int32} (h : IB s k) (hv : rg v 2) (h4 : s (68 + 10 * k + 4) = 0 ∨ ¬ v = 0) : IB (upd s (68 + 10 * k + 1) v) k := by
  unfold IB
  rw [pk_us, pk_un (by omega), pk_un (by omega), pk_un (by omega)]
  exact ⟨h.1, hv, h4, h.2.2.2⟩
theorem op_setKind {ω μ : Mem} {k : Nat} {v : Int32} (h : LW ω μ) (hk : k < 4) : OPW ω μ (f_X7_setKind k v ω) (f_X8_setKind k v μ) := by
  refine OPW.th ?_
  have h := h.th
  unfold f_X8_setKind f_X7_setKind f_X8_setKind_5
  generalize st μ 120 0 0 = μ at *
  have e0 := h.rs.b0 hk
  have e1 := h.rs.b1 hk
  rw [if_neg (isB_ok hk)]
  rw [show (1 + 4 + k) = 5 + k from rfl] at e0 e1
  rw [e0, e1, isW_in (μ := μ)]
  unfold f_X8_get
  by_cases q : f_X8_in v 0 2 μ = 0
  · rw [if_pos q, if_pos q]; exact OPW.same h
  · rw [if_neg q, if_neg q]
    have hv : rg v 2 := in_rg (n := 2) rfl q
    by_cases q1 : μ 121 (68 + 10 * k + 1) = 0
    · rw [if_pos q1, if_pos q1]
      by_cases q0 : μ 121 (68 + 10 * k + 0) = v
      · rw [if_pos q0, if_pos q0]; exact OPW.same h
      · rw [if_neg q0, if_neg q0]
        exact ⟨rfl, h.rec.lay hk (by decide) rfl ((h.rec.ib hk).f0 hv), fun z hz => (st_nei (by omega)).trans (rec_hi h z hz), fun z hz => (lay_lo z hz).trans (recs_lo μ z hz)⟩
    · rw [if_neg q1, if_neg q1]; exact OPW.same h
theorem op_turn {ω μ : Mem} {k : Nat} {v : Int32} (h : LW ω μ) (hk : k < 4) : OPW ω μ (f_X7_turn k v ω) (f_X8_turn k v μ) := by
  refine OPW.th ?_
  have h := h.th
  unfold f_X8_turn f_X7_turn f_X8_turn_5
  generalize st μ 120 0 0 = μ at *
  have e1 := h.rs.b1 hk
  rw [if_neg (isB_ok hk)]
  rw [show (1 + 4 + k) = 5 + k from rfl] at e1
  rw [e1, isW_in (μ := μ)]
  have g1 : f_X8_get k 1 μ = μ 121 (68 + 10 * k + 1) := rfl
  rw [g1]
  by_cases q : f_X8_in v 0 2 μ = 0
  · rw [if_pos q, if_pos q]; exact OPW.same h
  · rw [if_neg q, if_neg q]
    have hv : rg v 2 := in_rg (n := 2) rfl q
    by_cases q1 : μ 121 (68 + 10 * k + 1) = v
    · rw [if_pos q1, if_pos q1]; exact OPW.same h
    · rw [if_neg q1, if_neg q1]
      have hr := h.rec
      by_cases q0 : v = 0
      · rw [if_pos q0, if_pos q0]
        obtain ⟨t, h1, h2⟩ := hr.sm
        refine ⟨rfl, ?_, fun z hz => ((st_nei (by omega)).trans (st_nei (by omega))).trans (rec_hi h z hz), fun z hz => ((lay_lo z hz).trans (lay_lo z hz)).trans (recs_lo μ z hz)⟩
        refine hr.st1 ⟨t, h1, ?_, ?_⟩ ((CF.s (by omega)).tr (CF.s (by omega))) (MF.lay.tr MF.lay).1
        · dsimp only
          rw [lay_row, lay_row]
          exact (h2.1.b hk (by decide) rfl).b hk (by decide) (by decide)
        · dsimp only
          rw [lay_row, lay_row]
          have c : upd (upd ((f_X8_records μ) 121) (68 + 10 * k + 1) v) (68 + 10 * k + 4) 0 = upd (upd ((f_X8_records μ) 121) (68 + 10 * k + 4) 0) (68 + 10 * k + 1) v := by
            funext j
            unfold upd
            by_cases a : j = 68 + 10 * k + 4
            · rw [if_pos a, if_neg (by omega), if_pos a]
            · rw [if_neg a, if_neg a]
          rw [c]
          have i4 := (h2.ib hk).f4 (v := 0) (Or.inl rfl)
          exact (h2.2.b (by decide) i4 hk).b (by decide) (i4.f1 hv (Or.inl pk_us)) hk
      · rw [if_neg q0, if_neg q0, lay_same]
        exact ⟨rfl, hr.lay hk (by decide) rfl ((hr.ib hk).f1 hv (Or.inr q0)), fun z hz => (st_nei (by omega)).trans (rec_hi h z hz), fun z hz => (lay_lo z hz).trans (recs_lo μ z hz)⟩
theorem op_press {ω μ : Mem} {k : Nat} {v : Int32} (h : LW ω μ) (hk : k < 4) (hb : bb v = v) : OPW ω μ (f_X7_press k v ω) (f_X8_press k v μ) := by
  refine OPW.th ?_
  have h := h.th
  unfold f_X8_press f_X7_press f_X8_press_5
  generalize st μ 120 0 0 = μ at *
  have e2 := h.rs.b2 hk
  rw [if_neg (isB_ok hk)]
  rw [show (1 + 4 + k) = 5 + k from rfl] at e2
  have g2 : f_X8_get k 2 μ = μ 121 (68 + 10 * k + 2) := rfl
  rw [e2, g2]
  have fin : ∀ u : Int32, bb u = u → OPW ω μ (f_X7_oneIf (f_X5_isOpen 1 (5 + k) (st (f_X1_record 1 ω) (5 + k) 2 u)) (st (f_X1_record 1 ω) (5 + k) 2 u), st (f_X1_record 1 ω) (5 + k) 2 u) (if f_X8_isOpen k (f_X8_lay k 2 u (f_X8_records μ)) = 0 then (0, f_X8_lay k 2 u (f_X8_records μ)) else (1, f_X8_lay k 2 u (f_X8_records μ))) := by
    intro u hu
    have hl := h.rec.lay (w := 2) (v := u) (v' := u) hk (by decide) hu ((h.rec.ib hk).fo (by omega) (by decide))
    have ho : f_X5_isOpen 1 (5 + k) (st (f_X1_record 1 ω) (5 + k) 2 u) = _ := open_eq hl.rs hk (hl.ib hk)
    rw [ho]
    have f1 : ∀ z, 120 ≤ z → (st (f_X1_record 1 ω) (5 + k) 2 u) z = ω z := fun z hz => (st_nei (by omega)).trans (rec_hi h z hz)
    have f2 : ∀ z, z < 120 → (f_X8_lay k 2 u (f_X8_records μ)) z = μ z := fun z hz => (lay_lo z hz).trans (recs_lo μ z hz)
    unfold f_X7_oneIf
    by_cases q : f_X8_isOpen k (f_X8_lay k 2 u (f_X8_records μ)) = 0
    · rw [if_pos q, if_pos q]; exact ⟨rfl, hl, f1, f2⟩
    · rw [if_neg q, if_neg q]; exact ⟨rfl, hl, f1, f2⟩
  rcases bb01 v with z | z
  · have hv : v = 0 := hb.symm.trans z
    subst hv
    rw [if_pos rfl]
    by_cases q : μ 121 (68 + 10 * k + 2) = 0
    · rw [if_pos q, if_pos q]; exact OPW.same h
    · rw [if_neg q, if_neg q]; exact fin 0 rfl
  · have hv : v = 1 := hb.symm.trans z
    subst hv
    rw [if_neg (by decide : ¬ (1 : Int32) = 0)]
    by_cases q : μ 121 (68 + 10 * k + 2) = 1
    · rw [if_pos q, if_pos q]; exact OPW.same h
    · rw [if_neg q, if_neg q]; exact fin 1 rfl
theorem one_bb (x : Int32) (ω : Mem) : f_X7_oneIf (bb x) ω = bb x := by
  unfold f_X7_oneIf
  rcases bb01 x with z | z <;> rw [z] <;> rfl
theorem ign_eq {ω μ : Mem} (h : LW ω μ) : f_X5_ignitersOn 1 ω = f_X8_sumOver 3 μ := by
  unfold f_X5_ignitersOn f_X8_sumOver f_X8_get
  rw [one_bb, one_bb, one_bb, one_bb]
  have a0 := h.rs.b3 (k := 0) (by decide)
  have a1 := h.rs.b3 (k := 1) (by decide)
  have a2 := h.rs.b3 (k := 2) (by decide)
  have a3 := h.rs.b3 (k := 3) (by decide)
  have b0 : bb (ω (1 + 4) 3) = μ 121 (68 + 10 * 0 + 3) := a0
  have b1 : bb (ω (1 + 5) 3) = μ 121 (68 + 10 * 1 + 3) := a1
  have b2 : bb (ω (1 + 6) 3) = μ 121 (68 + 10 * 2 + 3) := a2
  have b3 : bb (ω (1 + 7) 3) = μ 121 (68 + 10 * 3 + 3) := a3
  rw [b0, b1, b2, b3]
theorem fla_eq {ω μ : Mem} (h : LW ω μ) : f_X5_flames 1 ω = f_X8_sumOver 4 μ := by
  unfold f_X5_flames f_X8_sumOver f_X8_get
  rw [one_bb, one_bb, one_bb, one_bb]
  have b0 : bb (ω (1 + 4) 4) = μ 121 (68 + 10 * 0 + 4) := h.rs.b4 (k := 0) (by decide)
  have b1 : bb (ω (1 + 5) 4) = μ 121 (68 + 10 * 1 + 4) := h.rs.b4 (k := 1) (by decide)
  have b2 : bb (ω (1 + 6) 4) = μ 121 (68 + 10 * 2 + 4) := h.rs.b4 (k := 2) (by decide)
  have b3 : bb (ω (1 + 7) 4) = μ 121 (68 + 10 * 3 + 4) := h.rs.b4 (k := 3) (by decide)
  rw [b0, b1, b2, b3]
theorem loc_eq {ω μ : Mem} (h : LW ω μ) : f_X5_lockedBurners 1 ω = f_X8_sumOver 6 μ := by
  unfold f_X5_lockedBurners f_X8_sumOver f_X8_get
  rw [one_bb, one_bb, one_bb, one_bb]
  have b0 : bb (ω (1 + 4) 6) = μ 121 (68 + 10 * 0 + 6) := h.rs.b6 (k := 0) (by decide)
  have b1 : bb (ω (1 + 5) 6) = μ 121 (68 + 10 * 1 + 6) := h.rs.b6 (k := 1) (by decide)
  have b2 : bb (ω (1 + 6) 6) = μ 121 (68 + 10 * 2 + 6) := h.rs.b6 (k := 2) (by decide)
  have b3 : bb (ω (1 + 7) 6) = μ 121 (68 + 10 * 3 + 6) := h.rs.b6 (k := 3) (by decide)
  rw [b0, b1, b2, b3]
theorem op_igniter {ω μ : Mem} {k : Nat} {v : Int32} (h : LW ω μ) (hk : k < 4) (hb : bb v = v) : OPW ω μ (f_X7_igniter k v ω) (f_X8_igniter k v μ) := by
  refine OPW.th ?_
  have h := h.th
  unfold f_X8_igniter f_X7_igniter f_X8_igniter_5
  generalize st μ 120 0 0 = μ at *
  have e2 := h.rs.b3 hk
  rw [if_neg (isB_ok hk)]
  rw [show (1 + 4 + k) = 5 + k from rfl] at e2
  have g2 : f_X8_get k 3 μ = μ 121 (68 + 10 * k + 3) := rfl
  rw [e2, g2]
  have fin : ∀ u : Int32, bb u = u → OPW ω μ (f_X5_ignitersOn 1 (st (f_X1_record 1 ω) (5 + k) 3 u), st (f_X1_record 1 ω) (5 + k) 3 u) (f_X8_sumOver 3 (f_X8_lay k 3 u (f_X8_records μ)), f_X8_lay k 3 u (f_X8_records μ)) := by
    intro u hu
    have hl := h.rec.lay (w := 3) (v := u) (v' := u) hk (by decide) hu ((h.rec.ib hk).fo (by omega) (by decide))
    exact ⟨ign_eq hl, hl, fun z hz => (st_nei (by omega)).trans (rec_hi h z hz), fun z hz => (lay_lo z hz).trans (recs_lo μ z hz)⟩
  rcases bb01 v with z | z
  · have hv : v = 0 := hb.symm.trans z
    subst hv
    rw [if_pos rfl]
    by_cases q : μ 121 (68 + 10 * k + 3) = 0
    · rw [if_pos q, if_pos q]; exact OPW.same h
    · rw [if_neg q, if_neg q]; exact fin 0 rfl
  · have hv : v = 1 := hb.symm.trans z
    subst hv
    rw [if_neg (by decide : ¬ (1 : Int32) = 0)]
    by_cases q : μ 121 (68 + 10 * k + 3) = 1
    · rw [if_pos q, if_pos q]; exact OPW.same h
    · rw [if_neg q, if_neg q]; exact fin 1 rfl
theorem op_unlock {ω μ : Mem} {k : Nat} (h : LW ω μ) (hk : k < 4) : OPW ω μ (f_X7_unlock k ω) (f_X8_unlock k μ) := by
  refine OPW.th ?_
  have h := h.th
  unfold f_X8_unlock f_X7_unlock f_X8_unlock_5
  generalize st μ 120 0 0 = μ at *
  have e6 := h.rs.b6 hk
  have e1 := h.rs.b1 hk
  rw [if_neg (isB_ok hk)]
  rw [show (1 + 4 + k) = 5 + k from rfl] at e6 e1
  have g6 : f_X8_get k 6 μ = μ 121 (68 + 10 * k + 6) := rfl
  have g1 : f_X8_get k 1 μ = μ 121 (68 + 10 * k + 1) := rfl
  rw [e6, e1, g6, g1]
  by_cases q6 : μ 121 (68 + 10 * k + 6) = 0
  · rw [if_pos q6, if_pos q6]; exact OPW.same h
  · rw [if_neg q6, if_neg q6]
    by_cases q1 : μ 121 (68 + 10 * k + 1) = 0
    · rw [if_pos q1, if_pos q1]
      have h6 := h.rec.lay (w := 6) (v := 0) (v' := 0) hk (by decide) (by decide) ((h.rec.ib hk).fo (by omega) (by decide))
      have h7 := h6.lay (w := 7) (v := 0) (v' := 0) hk (by decide) (by decide) ((h6.ib hk).fo (by omega) (by decide))
      exact ⟨loc_eq h7, h7, fun z hz => ((st_nei (by omega)).trans (st_nei (by omega))).trans (rec_hi h z hz), fun z hz => ((lay_lo z hz).trans (lay_lo z hz)).trans (recs_lo μ z hz)⟩
    · rw [if_neg q1, if_neg q1]; exact OPW.same h
