/-! bounds that hold between calls; events of a tick are few -/
def JV (s : Nat → Int32) : Prop := 0 ≤ (s 1).toInt ∧ 0 ≤ (s 3).toInt ∧ (s 5).toInt ≤ (s 6).toInt
def JC (B : Nat) (ω : Mem) : Prop := 0 ≤ (ω (B + 2) 1).toInt ∧ 0 ≤ (ω (B + 2) 3).toInt ∧ (ω B 5).toInt ≤ (ω B 6).toInt
theorem JC.v {B : Nat} {ω : Mem} {s : Nat → Int32} (h : RS B ω s) : JC B ω ↔ JV s := by
  unfold JC JV
  rw [h.1 1 (by decide), h.1 3 (by decide), h.s5, h.s6]
theorem JC.cg {ω ω' : Mem} (h : JC 1 ω) (c : ∀ z, z < 5 → ω' z = ω z) : JC 1 ω' := by
  unfold JC at *
  rw [c (1 + 2) (by decide), c 1 (by decide)]
  exact h
theorem rg_nn {x : Int32} {n : Nat} (h : rg x n) (hn : n < 2 ^ 31) : ¬ x < 0 := by
  rw [h.1]
  exact nI_pos (by have := h.2; omega)
theorem LW.rfr {ω μ : Mem} (h : LW ω μ) : ∀ z, (z < 52 ∨ 118 ≤ z) → (f_X1_record 1 ω) z = ω z := (recW h.2.2.1 h.1).2
/-- another ghost -/
theorem LW.gh {ω μ μ' : Mem} (h : LW ω μ) (e1 : μ' 121 = μ 121) (e2 : μ' 120 6 = μ 120 6) (e3 : μ' 120 8 = μ 120 8) (e4 : μ' 124 = μ 124) (e5 : μ' 125 = μ 125) : LW ω μ' := by
  unfold LW TXR
  rw [e1, e2, e3, e4, e5]
  exact ⟨h.1, h.2.1, h.2.2.1, h.2.2.2⟩
theorem LW.rec0 {ω μ : Mem} (h : LW ω μ) : LW (f_X1_record 1 ω) μ := by
  obtain ⟨r1, r2⟩ := records_fr μ
  exact h.rec.gh (records_121 μ).symm (r2 6 (by decide)).symm (r2 8 (by decide)).symm (r1 124 (by decide) (by decide)).symm (r1 125 (by decide) (by decide)).symm
/-- at most m events more -/
def TD (m : Nat) (ω ω' : Mem) : Prop := ∃ n, n ≤ m ∧ f_X2_total 12 ω' = f_X2_total 12 ω + nI n
theorem TD.rf {m : Nat} {ω : Mem} : TD m ω ω := ⟨0, Nat.zero_le _, (Int32.add_zero _).symm⟩
theorem TD.of {m : Nat} {ω ω' : Mem} (h : ω' 16 = ω 16) : TD m ω ω' := ⟨0, Nat.zero_le _, by
  unfold f_X2_total
  rw [show 12 + 4 = 16 from rfl, h]
  exact (Int32.add_zero _).symm⟩
theorem TD.tr {m k : Nat} {a b c : Mem} (h : TD m a b) (g : TD k b c) : TD (m + k) a c := by
  obtain ⟨x, hx, ex⟩ := h
  obtain ⟨y, hy, ey⟩ := g
  exact ⟨x + y, by omega, by rw [ey, ex, Int32.add_assoc, nI_add]⟩
theorem TD.s {m i k : Nat} {ω ω' : Mem} {v : Int32} (h : TD m ω ω') (hi : i ≠ 16) : TD m ω (st ω' i k v) := by
  have := h.tr (TD.of (m := 0) (ω := ω') (ω' := st ω' i k v) (st_nei hi))
  exact this
theorem td_note {ev : Nat} {x t : Int32} {ω : Mem} (hev : ev < 4) : TD 1 ω (f_X2_note 12 ev x t ω) := by
  have h := (note_cells 12 ev x t ω hev).2.2.2.2.1
  refine ⟨1, Nat.le_refl _, ?_⟩
  have e1 : nI 1 = 1 := by decide
  unfold f_X2_total
  rw [h 0, h 1, h 2, h 3, e1]
  rcases (show ev = 0 ∨ ev = 1 ∨ ev = 2 ∨ ev = 3 by omega) with rfl | rfl | rfl | rfl
  · rw [if_pos rfl, if_neg (by decide), if_neg (by decide), if_neg (by decide)]
    ac_rfl
  · rw [if_neg (by decide), if_pos rfl, if_neg (by decide), if_neg (by decide)]
    ac_rfl
  · rw [if_neg (by decide), if_neg (by decide), if_pos rfl, if_neg (by decide)]
    ac_rfl
  · rw [if_neg (by decide), if_neg (by decide), if_neg (by decide), if_pos rfl]
    ac_rfl
theorem TD.note {m ev : Nat} {x t : Int32} {ω ω' : Mem} (h : TD m ω ω') (hev : ev < 4) : TD (m + 1) ω (f_X2_note 12 ev x t ω') := h.tr (td_note hev)
theorem TD.le {m k : Nat} {a b : Mem} (h : TD m a b) (hk : m ≤ k) : TD k a b := by
  obtain ⟨x, hx, ex⟩ := h
  exact ⟨x, by omega, ex⟩
theorem td_blow {x d : Int32} {b : Nat} {ω : Mem} (hb : b ≠ 16) : TD 1 ω (f_X5_blow 1 x b d ω) := by
  unfold f_X5_blow
  by_cases q1 : bb (ω b 4) = 0
  · rw [if_pos q1]; exact TD.rf
  rw [if_neg q1]
  by_cases q2 : f_X5_isOpen 1 b ω = 0
  · rw [if_pos q2]; exact TD.rf.s hb
  rw [if_neg q2]
  by_cases q3 : d ≤ f_X0_strength b ω
  · rw [if_pos q3]; exact TD.rf
  rw [if_neg q3]
  exact ((TD.rf (m := 0)).s hb).note (by decide)
theorem td_spark {x d : Int32} {b : Nat} {ω : Mem} (hb : b ≠ 16) : TD 1 ω (f_X5_spark 1 x b d ω) := by
  unfold f_X5_spark f_X5_spark_33
  by_cases q1 : bb (ω b 4) = 0
  · rw [if_pos q1]
    by_cases q2 : bb (ω b 3) = 0
    · rw [if_pos q2]; exact TD.rf
    rw [if_neg q2]
    by_cases q3 : f_X5_isOpen 1 b ω = 0
    · rw [if_pos q3]; exact TD.rf
    rw [if_neg q3]
    have t0 : TD 0 ω (st ω b 7 (ω b 7 + 1)) := TD.rf.s hb
    generalize st ω b 7 (ω b 7 + 1) = ω1 at *
    by_cases q4 : f_X0_strength b ω1 < d
    · rw [if_pos q4]
      by_cases q5 : ω1 b 7 < f_X4_valueOf (1 + 1) 1 ω1
      · rw [if_pos q5]; exact t0.le (by decide)
      · rw [if_neg q5]
        exact (t0.s hb).note (by decide)
    · rw [if_neg q4]
      exact ((t0.s hb).s hb).note (by decide)
  · rw [if_neg q1]; exact TD.rf
theorem td_warm {b : Nat} {ω : Mem} (hb : b ≠ 16) : TD 0 ω (f_X0_warmOrCool b ω) := by
  unfold f_X0_warmOrCool
  by_cases q : bb (ω b 4) = 0
  · rw [if_pos q]; exact TD.rf.s hb
  · rw [if_neg q]; exact TD.rf.s hb
theorem td_drop {x : Int32} {b : Nat} {ω : Mem} (hb : b ≠ 16) : TD 1 ω (f_X5_warmOrDrop 1 x b ω) := by
  unfold f_X5_warmOrDrop
  have t0 : TD 0 ω (f_X0_warmOrCool b ω) := td_warm hb
  by_cases q1 : f_X5_isOpen 1 b ω = 0
  · rw [if_pos q1]; exact t0.le (by decide)
  rw [if_neg q1]
  by_cases q2 : f_X5_isOpen 1 b (f_X0_warmOrCool b ω) = 0
  · rw [if_pos q2]; exact (t0.s hb).note (by decide)
  · rw [if_neg q2]; exact t0.le (by decide)
theorem td_flow {b : Nat} {ω : Mem} (hb : b ≠ 16) : TD 0 ω (f_X5_flow 1 b ω) := by
  unfold f_X5_flow f_X5_flow_27 f_X5_flow_40 f_X5_flow_50
  by_cases q : f_X5_flowsUnburnt 1 b ω = 0
  · rw [if_pos q]; exact TD.rf.s hb
  · rw [if_neg q]; exact ((((TD.rf.s (by decide)).s hb).s hb).s (by decide))
theorem td_one {x d : Int32} {b : Nat} {ω : Mem} (hb : b ≠ 16) : TD 2 ω (f_X5_flow 1 b (f_X5_warmOrDrop 1 x b (f_X5_blow 1 x b d ω))) := ((td_blow hb).tr (td_drop hb)).tr (td_flow hb)
theorem td_one2 {x d : Int32} {b : Nat} {ω : Mem} (hb : b ≠ 16) : TD 3 ω (f_X5_flow 1 b (f_X5_warmOrDrop 1 x b (f_X5_spark 1 x b d (f_X5_blow 1 x b d ω)))) := (((td_blow hb).tr (td_spark hb)).tr (td_drop hb)).tr (td_flow hb)
theorem td_tail {d v : Int32} {m : Nat} {ω ω' : Mem} (h : TD m ω ω') : TD m ω (f_X5_passTick_68 1 d v ω') := by
  unfold f_X5_passTick_68 f_X5_passTick_83 f_X5_passTick_106
  exact ((h.s (by decide)).s (by decide)).s (by decide)
theorem td_tick {ω : Mem} : TD 12 ω (f_X5_passTick 1 ω) := by
  unfold f_X5_passTick
  by_cases q : f_X5_allowsFire 1 ω = 0
  · rw [if_pos q]
    refine td_tail (TD.le (m := 2 + 2 + 2 + 2) ?_ (by decide))
    exact (((td_one (by decide)).tr (td_one (by decide))).tr (td_one (by decide))).tr (td_one (by decide))
  · rw [if_neg q]
    refine td_tail (TD.le (m := 3 + 3 + 3 + 3) ?_ (by decide))
    exact (((td_one2 (by decide)).tr (td_one2 (by decide))).tr (td_one2 (by decide))).tr (td_one2 (by decide))
/-- behind a tick the gas is at most the most gas -/
theorem ticks_56 {t : Nat} {ω μ : Mem} (h : SM 1 t (56 * t) ω μ) (ht : t < 2 ^ 20) : ((f_X8_ticks μ) 121 5).toInt ≤ ((f_X8_ticks μ) 121 6).toInt := by
  have hdr := draft_rg (t := μ 121 4) h.2.2.2.2.2.1.2
  obtain ⟨f0, f1, m4⟩ := four_sim (d := f_X8_draftAt (μ 121 4) μ) (G := μ 121 5) h (Or.inl rfl) (by omega)
  have key : ∀ (ω4 μ4 : Mem), SM 1 t (56 * t + 56) ω4 μ4 → ((f_X8_ticks_38 (f_X8_draftAt (μ 121 4) μ) (μ 121 5) μ4) 121 5).toInt ≤ ((f_X8_ticks_38 (f_X8_draftAt (μ 121 4) μ) (μ 121 5) μ4) 121 6).toInt := by
    intro ω4 μ4 h4
    generalize f_X8_draftAt (μ 121 4) μ = D at *
    obtain ⟨-, i2, ⟨-, i5⟩, -⟩ := h4.2
    obtain ⟨x, hx, ex⟩ := rg_ex i5
    obtain ⟨a, ha, ea⟩ := rg_ex i2
    obtain ⟨y, hy, ey⟩ := rg_ex hdr
    obtain ⟨-, l2⟩ := leave_eq (G := x) (a := a) (d := y) (by omega) ha hy
    have e77 : ∀ m : Mem, m 121 2 = nI a → m 121 5 = nI x → (f_X8_ticks_77 D (μ 121 5) m) 121 5 = nI (x - a - y) ∧ (f_X8_ticks_77 D (μ 121 5) m) 121 6 = m 121 6 := by
      intro m m2 m5
      unfold f_X8_ticks_77 f_X8_ticks_118 f_X8_ticks_119
      rw [m2, m5, ey]
      by_cases q : (nI a + nI y) ≤ nI x
      · rw [if_pos q] at l2 ⊢
        exact ⟨by rw [st_ne (by decide), st_eq]; exact l2, by rw [st_ne (by decide), st_ne (by decide)]⟩
      · rw [if_neg q] at l2 ⊢
        exact ⟨by rw [st_ne (by decide), st_eq]; exact l2, by rw [st_ne (by decide), st_ne (by decide)]⟩
    unfold f_X8_ticks_38 f_X8_ticks_76
    by_cases q : μ4 121 5 ≤ μ4 121 6
    · rw [if_pos q]
      obtain ⟨r5, r6⟩ := e77 (st μ4 121 6 (μ4 121 6)) (by rw [st_ne (by decide)]; exact ea) (by rw [st_ne (by decide)]; exact ex)
      rw [r5, r6, st_eq, nI_toInt (by omega)]
      rw [Int32.le_iff_toInt_le, ex, nI_toInt (by omega)] at q
      omega
    · rw [if_neg q]
      obtain ⟨r5, r6⟩ := e77 (st μ4 121 6 (μ4 121 5)) (by rw [st_ne (by decide)]; exact ea) (by rw [st_ne (by decide)]; exact ex)
      rw [r5, r6, st_eq, ex, nI_toInt (by omega), nI_toInt (by omega)]
      omega
  unfold f_X8_ticks
  by_cases hc : μ 121 3 ≤ μ 121 5
  · exact key _ _ (f0 hc).1
  · exact key _ _ (f1 hc).1
/-- n ticks of the ghost -/
def tk : Nat → Mem → Mem
  | 0, μ => μ
  | n + 1, μ => tk n (f_X8_ticks μ)
theorem tk_add (a b : Nat) : ∀ μ : Mem, tk (a + b) μ = tk b (tk a μ) := by
  induction a with
  | zero => intro μ; rw [Nat.zero_add]; rfl
  | succ a ih => intro μ; rw [show a + 1 + b = a + b + 1 by omega]; exact ih _
theorem tick_all {ω μ : Mem} {T : Nat} (h : LW ω μ) (hT : μ 121 4 = nI T) (hT2 : T < 99999) (hJ : JC 1 ω) : LW (f_X5_passTick 1 ω) (f_X8_ticks μ) ∧ (f_X8_ticks μ) 121 4 = nI (T + 1) ∧ CF 1 ω (f_X5_passTick 1 ω) ∧ JC 1 (f_X5_passTick 1 ω) := by
  obtain ⟨a, b, c, d⟩ := h.tick hT hT2
  refine ⟨a, b, c, (JC.v a.rs).mpr ?_⟩
  have j := (JC.v h.rs).mp hJ
  obtain ⟨t, h1, h2⟩ := h.sm
  refine ⟨?_, ?_, ticks_56 h2 (by omega)⟩
  · rw [d.2 1 (by decide)]; exact j.1
  · rw [d.2 3 (by decide)]; exact j.2.1
theorem pass_all (t : Nat) (v : Int32) : ∀ (fu j T : Nat) (ω μ : Mem), t < j + fu → j ≤ t → LW ω μ → μ 121 4 = nI T → T + (t - j) ≤ 99999 → JC 1 ω → ∃ ω' : Mem, f_X7_pass_55 fu t v j ω = (f_X8_totals (tk (t - j) μ) - v, ω') ∧ LW ω' (tk (t - j) μ) ∧ (tk (t - j) μ) 121 4 = nI (T + (t - j)) ∧ CF 1 ω ω' ∧ JC 1 ω' ∧ TD (12 * (t - j)) ω ω' := by
  intro fu
  induction fu with
  | zero => intro j T ω μ h1 h2; omega
  | succ fu ih =>
    intro j T ω μ h1 h2 h hT hT2 hJ
    unfold f_X7_pass_55
    by_cases q : t ≤ j
    · rw [if_pos q, show t - j = 0 by omega]
      exact ⟨ω, by rw [tot_eq h]; rfl, h, hT, CF.rf, hJ, TD.rf⟩
    · rw [if_neg q]
      obtain ⟨a, b, c, d⟩ := tick_all h hT (by omega) hJ
      obtain ⟨ω', r1, r2, r3, r4, r5, r6⟩ := ih (j + 1) (T + 1) _ _ (by omega) (by omega) a b (by omega) d
      have e : tk (t - j) μ = tk (t - (j + 1)) (f_X8_ticks μ) := by rw [show t - j = t - (j + 1) + 1 by omega]; rfl
      rw [e]
      exact ⟨ω', r1, r2, by rw [r3]; congr 1; omega, c.tr r4, r5, ((td_tick (ω := ω)).tr r6).le (by omega)⟩
theorem tk0 {ω μ : Mem} {T t : Nat} (h : LW ω μ) (hT : μ 121 4 = nI T) (ht : 1 ≤ t ∧ t ≤ 200) (hJ : JC 1 ω) (hT2 : T + t ≤ 99999) : ∃ ω' : Mem, f_X7_pass t ω = (f_X8_totals (tk t μ) - f_X8_totals μ, ω') ∧ LW ω' (tk t μ) ∧ (tk t μ) 121 4 = nI (T + t) ∧ CF 1 (f_X1_record 1 ω) ω' ∧ JC 1 ω' ∧ ¬ (f_X8_totals (tk t μ) - f_X8_totals μ) < 0 := by
  unfold f_X7_pass
  have qi : ¬ f_X7_isWithin (nI t) 1 200 ω = 0 := by
    unfold f_X7_isWithin
    have a1 : ¬ nI t < 1 := nI_nlt (b := 1) ht.1 (by omega)
    have a2 : ¬ 200 < nI t := nI_nlt (a := 200) ht.2 (by decide)
    rw [if_neg a1, if_neg a2]
    decide
  rw [if_neg qi, h.rs.s4, hT, nI_add]
  have q : nI (T + t) ≤ 99999 := nI_le (b := 99999) hT2 (by decide)
  have h0 := h.rec0
  rw [if_pos q, tot_eq h0]
  obtain ⟨ω', r1, r2, r3, r4, r5, r6⟩ := pass_all t (f_X8_totals μ) 201 0 T _ _ (by omega) (by omega) h0 hT (by omega) (hJ.cg (fun z hz => h.rfr z (by omega)))
  rw [Nat.sub_zero] at r1 r2 r3 r6
  refine ⟨ω', r1, r2, r3, r4, r5, ?_⟩
  obtain ⟨n, hn, en⟩ := r6
  rw [tot_eq r2, tot_eq h0] at en
  rw [en, Int32.add_comm, Int32.add_sub_cancel]
  exact nI_pos (by omega)
theorem tk_full {ω μ : Mem} {T t : Nat} (h : LW ω μ) (hT : μ 121 4 = nI T) (hTT : T ≤ 99999) (ht : 1 ≤ t ∧ t ≤ 200) (hT2 : ¬ T + t ≤ 99999) : f_X7_pass t ω = (-3, ω) := by
  unfold f_X7_pass
  have qi : ¬ f_X7_isWithin (nI t) 1 200 ω = 0 := by
    unfold f_X7_isWithin
    have a1 : ¬ nI t < 1 := nI_nlt (b := 1) ht.1 (by omega)
    have a2 : ¬ 200 < nI t := nI_nlt (a := 200) ht.2 (by decide)
    rw [if_neg a1, if_neg a2]
    decide
  rw [if_neg qi, h.rs.s4, hT, nI_add]
  have q : ¬ nI (T + t) ≤ 99999 := fun q => hT2 ((nI_leI (b := 99999) (by omega) (by decide)).1 q)
  rw [if_neg q]
