/-! an act: refused, and nothing is changed; or recorded first -/
def AC (ω : Mem) (a : Int32 × Mem) : Prop := (a.1 < 0 ∧ a.2 = ω) ∨ (¬ a.1 < 0 ∧ CF 1 (f_X1_record 1 ω) a.2 ∧ JC 1 a.2)
theorem AC.no {ω : Mem} {r : Int32} (h : r < 0) : AC ω (r, ω) := Or.inl ⟨h, rfl⟩
theorem AC.up {ω μ ω' : Mem} {r : Int32} (h : LW ω μ) (hJ : JC 1 ω) (hr : ¬ r < 0) (c : ∀ z, (z < 5 ∨ 17 ≤ z) → ω' z = (f_X1_record 1 ω) z) : AC ω (r, ω') :=
  Or.inr ⟨hr, fun z hz => c z (by omega), hJ.cg (fun z hz => (c z (by omega)).trans (h.rfr z (by omega)))⟩
theorem LW.k0 {ω μ : Mem} {k : Nat} (h : LW ω μ) (hk : k < 4) : rg (ω (5 + k) 0) 2 := by
  have e : ω (5 + k) 0 = _ := h.rs.b0 hk
  rw [e]; exact (h.ib hk).1
theorem LW.k1 {ω μ : Mem} {k : Nat} (h : LW ω μ) (hk : k < 4) : rg (ω (5 + k) 1) 2 := by
  have e : ω (5 + k) 1 = _ := h.rs.b1 hk
  rw [e]; exact (h.ib hk).2.1
theorem one_01 (x : Int32) (ω : Mem) : f_X7_oneIf x ω = 0 ∨ f_X7_oneIf x ω = 1 := by
  unfold f_X7_oneIf
  by_cases h : x = 0
  · rw [if_pos h]; exact Or.inl rfl
  · rw [if_neg h]; exact Or.inr rfl
theorem one_nn (x : Int32) (ω : Mem) : ¬ f_X7_oneIf x ω < 0 := by
  rcases one_01 x ω with e | e <;> rw [e] <;> decide
theorem four_nn {a b c d : Int32} (ha : a = 0 ∨ a = 1) (hb : b = 0 ∨ b = 1) (hc : c = 0 ∨ c = 1) (hd : d = 0 ∨ d = 1) : ¬ ((((0 + a) + b) + c) + d) < 0 := by
  rcases ha with rfl | rfl <;> rcases hb with rfl | rfl <;> rcases hc with rfl | rfl <;> rcases hd with rfl | rfl <;> decide
theorem ac_setKind {ω μ : Mem} {k : Nat} {v : Int32} (h : LW ω μ) (hJ : JC 1 ω) (hk : k < 4) : AC ω (f_X7_setKind k v ω) := by
  unfold f_X7_setKind
  by_cases q : f_X7_isWithin v 0 2 ω = 0
  · rw [if_pos q]; exact AC.no (by decide)
  rw [if_neg q]
  by_cases q1 : ω (5 + k) 1 = 0
  · rw [if_pos q1]
    by_cases q0 : ω (5 + k) 0 = v
    · rw [if_pos q0]; exact AC.no (by decide)
    · rw [if_neg q0]
      exact AC.up h hJ (rg_nn (h.k0 hk) (by decide)) (fun z hz => st_nei (by omega))
  · rw [if_neg q1]; exact AC.no (by decide)
theorem ac_turn {ω μ : Mem} {k : Nat} {v : Int32} (h : LW ω μ) (hJ : JC 1 ω) (hk : k < 4) : AC ω (f_X7_turn k v ω) := by
  unfold f_X7_turn
  by_cases q : f_X7_isWithin v 0 2 ω = 0
  · rw [if_pos q]; exact AC.no (by decide)
  rw [if_neg q]
  by_cases q1 : ω (5 + k) 1 = v
  · rw [if_pos q1]; exact AC.no (by decide)
  rw [if_neg q1]
  by_cases q0 : v = 0
  · rw [if_pos q0]
    exact AC.up h hJ (rg_nn (h.k1 hk) (by decide)) (fun z hz => (st_nei (by omega)).trans (st_nei (by omega)))
  · rw [if_neg q0]
    exact AC.up h hJ (rg_nn (h.k1 hk) (by decide)) (fun z hz => st_nei (by omega))
theorem ac_press {ω μ : Mem} {k : Nat} {v : Int32} (h : LW ω μ) (hJ : JC 1 ω) (hk : k < 4) : AC ω (f_X7_press k v ω) := by
  unfold f_X7_press
  by_cases q : bb (ω (5 + k) 2) = v
  · rw [if_pos q]; exact AC.no (by decide)
  · rw [if_neg q]
    exact AC.up h hJ (one_nn _ _) (fun z hz => st_nei (by omega))
theorem ac_igniter {ω μ : Mem} {k : Nat} {v : Int32} (h : LW ω μ) (hJ : JC 1 ω) (hk : k < 4) : AC ω (f_X7_igniter k v ω) := by
  unfold f_X7_igniter
  by_cases q : bb (ω (5 + k) 3) = v
  · rw [if_pos q]; exact AC.no (by decide)
  · rw [if_neg q]
    refine AC.up h hJ ?_ (fun z hz => st_nei (by omega))
    unfold f_X5_ignitersOn
    exact four_nn (one_01 _ _) (one_01 _ _) (one_01 _ _) (one_01 _ _)
theorem ac_unlock {ω μ : Mem} {k : Nat} (h : LW ω μ) (hJ : JC 1 ω) (hk : k < 4) : AC ω (f_X7_unlock k ω) := by
  unfold f_X7_unlock
  by_cases q : bb (ω (5 + k) 6) = 0
  · rw [if_pos q]; exact AC.no (by decide)
  rw [if_neg q]
  by_cases q1 : ω (5 + k) 1 = 0
  · rw [if_pos q1]
    refine AC.up h hJ ?_ (fun z hz => (st_nei (by omega)).trans (st_nei (by omega)))
    unfold f_X5_lockedBurners
    exact four_nn (one_01 _ _) (one_01 _ _) (one_01 _ _) (one_01 _ _)
  · rw [if_neg q1]; exact AC.no (by decide)
theorem ac_light {ω μ : Mem} {k : Nat} (h : LW ω μ) (hJ : JC 1 ω) (hk : k < 4) : AC ω (f_X7_light k ω) := by
  unfold f_X7_light
  by_cases q : f_X5_isOpen 1 (5 + k) ω = 0
  · rw [if_pos q]; exact AC.no (by decide)
  rw [if_neg q]
  by_cases q1 : bb (ω (5 + k) 4) = 0
  · rw [if_pos q1]
    by_cases q2 : f_X5_allowsFire 1 ω = 0
    · rw [if_pos q2]; exact AC.no (by decide)
    rw [if_neg q2]
    by_cases q3 : f_X5_draft 1 (f_X1_record 1 ω) ≤ f_X0_strength (5 + k) (f_X1_record 1 ω)
    · rw [if_pos q3]
      refine AC.up h hJ (by decide) (fun z hz => ?_)
      unfold f_X5_kindle
      rw [(note_cells (1 + 11) 0 (nI k) ((st (st (f_X1_record 1 ω) (5 + k) 4 1) (5 + k) 7 0) 1 4) (st (st (f_X1_record 1 ω) (5 + k) 4 1) (5 + k) 7 0) (by decide)).2.2.2.2.2 z (by omega) (by omega) (by omega) (by omega) (by omega)]
      exact (st_nei (by omega)).trans (st_nei (by omega))
    · rw [if_neg q3]
      exact AC.up h hJ (by decide) (fun _ _ => rfl)
  · rw [if_neg q1]; exact AC.no (by decide)
theorem ac_plan {ω μ : Mem} {t d : Int32} (h : LW ω μ) (hJ : JC 1 ω) : AC ω (f_X7_plan t d ω) := by
  have hp : PR 9 (f_X1_record 1 ω) ((f_X8_records μ) 121) := h.rec.rs.pr
  have ho := op_plan (t := t) (d := d) h
  unfold f_X7_plan at ho ⊢
  by_cases q : f_X7_isWithin t 0 9999 ω = 0
  · rw [if_pos q]; exact AC.no (by decide)
  rw [if_neg q] at ho ⊢
  by_cases q1 : f_X7_isWithin d 0 9 ω = 0
  · rw [if_pos q1]; exact AC.no (by decide)
  rw [if_neg q1] at ho ⊢
  by_cases q2 : f_X3_hasRoomFor 9 t ω = 0
  · rw [if_pos q2]; exact AC.no (by decide)
  rw [if_neg q2] at ho ⊢
  by_cases q3 : f_X3_holds 9 t d ω = 0
  · rw [if_pos q3] at ho ⊢
    have key : rg ((f_X3_put 9 t d (f_X1_record 1 ω)).2 9 2) 12 := by
      have r := ho.2.1.rs.2.2.2.2.1
      have e : (f_X3_put 9 t d (f_X1_record 1 ω)).2 9 2 = _ := r.1
      rw [e]; exact r.2.1
    have fr : ∀ z, (z < 9 ∨ 12 ≤ z) → (f_X3_put 9 t d (f_X1_record 1 ω)).2 z = (f_X1_record 1 ω) z := by
      rcases put_sim (t := t) (d := d) hp with ⟨-, -, -, -, e⟩ | ⟨-, -, -, e⟩
      · rw [e]; exact fun _ _ => rfl
      · exact e.2.1
    exact AC.up h hJ (rg_nn key (by decide)) (fun z hz => fr z (by omega))
  · rw [if_neg q3]; exact AC.no (by decide)
theorem nn_of {x : Int32} (h : 0 ≤ x.toInt) : ¬ x < 0 := by
  rw [Int32.lt_iff_toInt_lt]
  have e0 : (0 : Int32).toInt = 0 := rfl
  omega
theorem set_ac {ω μ : Mem} {k : Nat} {v x : Int32} (h : LW ω μ) (hJ : JC 1 ω) (hk : k < 4) (hx : 0 ≤ x.toInt) (hv : 0 ≤ v.toInt) : AC ω (if x = v then (-5, ω) else (x, st (f_X1_record 1 ω) 3 k v)) := by
  by_cases q : x = v
  · rw [if_pos q]; exact AC.no (by decide)
  rw [if_neg q]
  refine Or.inr ⟨nn_of hx, CF.s (by omega), ?_⟩
  have j := hJ.cg (fun z hz => h.rfr z (by omega))
  show JC 1 (st (f_X1_record 1 ω) 3 k v)
  unfold JC at j ⊢
  refine ⟨?_, ?_, ?_⟩
  · by_cases e : k = 1
    · subst e; rw [show 1 + 2 = 3 from rfl, st_eq]; exact hv
    · rw [show 1 + 2 = 3 from rfl, st_ne e]; exact j.1
  · by_cases e : k = 3
    · subst e; rw [show 1 + 2 = 3 from rfl, st_eq]; exact hv
    · rw [show 1 + 2 = 3 from rfl, st_ne e]; exact j.2.1
  · rw [st_nei (by decide)]; exact j.2.2
theorem ac_set {ω μ : Mem} {w v : Int32} (h : LW ω μ) (hJ : JC 1 ω) : AC ω (f_X7_set w v ω) := by
  unfold f_X7_set
  by_cases q : f_X4_isOne w ω = 0
  · rw [if_pos q]; exact AC.no (by decide)
  rw [if_neg q]
  by_cases q1 : f_X4_allows w v ω = 0
  · rw [if_pos q1]; exact AC.no (by decide)
  rw [if_neg q1]
  have j := (JC.v h.rs).mp hJ
  obtain ⟨t, h1, h2⟩ := h.sm
  obtain ⟨i0, i2, -⟩ := h2.2
  have q' : ¬ f_X8_in w 0 3 μ = 0 := q
  rcases nI4 (in_rg (n := 3) rfl q') with rfl | rfl | rfl | rfl
  · have a : f_X4_allows 0 v ω = f_X8_in v 100 450 μ := rfl
    rw [a] at q1
    have b := in_bd q1
    rw [val0]
    have x0 : ω 3 0 = μ 121 0 := h.rs.1 0 (by decide)
    refine set_ac (k := 0) h hJ (by decide) ?_ ?_
    · rw [show 2 + 1 = 3 from rfl, x0]; omega
    · have e : (100 : Int32).toInt = 100 := rfl
      omega
  · have a : f_X4_allows 1 v ω = f_X8_in v 1 20 μ := rfl
    rw [a] at q1
    have b := in_bd q1
    rw [val1]
    have x0 : ω 3 1 = μ 121 1 := h.rs.1 1 (by decide)
    refine set_ac (k := 1) h hJ (by decide) ?_ ?_
    · rw [show 2 + 1 = 3 from rfl, x0]; exact j.1
    · have e : (1 : Int32).toInt = 1 := rfl
      omega
  · have a : f_X4_allows 2 v ω = f_X8_in v 0 50 μ := rfl
    rw [a] at q1
    have b := in_bd q1
    rw [val2]
    have x0 : ω 3 2 = μ 121 2 := h.rs.1 2 (by decide)
    refine set_ac (k := 2) h hJ (by decide) ?_ ?_
    · obtain ⟨m, hm, em⟩ := rg_ex i2
      rw [show 2 + 1 = 3 from rfl, x0, em, nI_toInt (by omega)]; omega
    · have e : (0 : Int32).toInt = 0 := rfl
      omega
  · have a : f_X4_allows 3 v ω = f_X8_in v 50 1000 μ := rfl
    rw [a] at q1
    have b := in_bd q1
    rw [val3]
    have x0 : ω 3 3 = μ 121 3 := h.rs.1 3 (by decide)
    refine set_ac (k := 3) h hJ (by decide) ?_ ?_
    · rw [show 2 + 1 = 3 from rfl, x0]; exact j.2.1
    · have e : (50 : Int32).toInt = 50 := rfl
      omega
theorem LW.time {ω μ : Mem} (h : LW ω μ) : ∃ T, T ≤ 99999 ∧ μ 121 4 = nI T := by
  obtain ⟨t, h1, h2⟩ := h.sm
  exact ⟨t, h1, h2.2.2.2.1.1⟩
theorem ac_pass {ω μ : Mem} {t : Nat} (h : LW ω μ) (hJ : JC 1 ω) (ht : 1 ≤ t ∧ t ≤ 200) : AC ω (f_X7_pass t ω) := by
  obtain ⟨T, h1, hT⟩ := h.time
  by_cases q : T + t ≤ 99999
  · obtain ⟨ω', r1, -, -, r4, r5, r6⟩ := tk0 h hT ht hJ q
    rw [r1]
    exact Or.inr ⟨r6, r4, r5⟩
  · rw [tk_full h hT h1 ht q]
    exact AC.no (by decide)
set_option maxRecDepth 100000 in
/-- the snapshot comes back -/
theorem restore_at {ω μ : Mem} {p : Nat → Int32} (h : LW ω μ) (hs : ¬ bb (ω 0 6) = 0) (hp : SX 17 ω p) (jp : JV p) : AC ω (f_X7_restore ω) ∧ SX 1 (f_X7_restore ω).2 p := by
  have e : f_X7_restore ω = ((f_X5_copyFrom 1 17 (f_X1_record 1 ω)) 1 4, f_X5_copyFrom 1 17 (f_X1_record 1 ω)) := if_neg hs
  have s17 : SX 17 (f_X1_record 1 ω) p := hp.congr (fun j hj => h.rfr _ (by omega))
  have s1 : SX 1 (f_X5_copyFrom 1 17 (f_X1_record 1 ω)) p := s17.copy (by omega)
  have c : CF 1 (f_X1_record 1 ω) (f_X5_copyFrom 1 17 (f_X1_record 1 ω)) := CF.copy (by omega)
  rw [e]
  generalize f_X5_copyFrom 1 17 (f_X1_record 1 ω) = ω' at *
  refine ⟨?_, s1⟩
  obtain ⟨t, ht, r, v⟩ := s1
  refine Or.inr ⟨?_, c, (JC.v r).mpr jp⟩
  have e4 : ω' 1 4 = p 4 := r.s4
  have e5 : p 4 = nI t := v.2.2.1.1
  show ¬ ω' 1 4 < 0
  rw [e4, e5]
  exact nI_pos (by omega)
/-- the look ahead answers 500 at the most, and touches the trial alone -/
theorem clear_500 : ∀ (fu j : Nat) (ω : Mem), (f_X7_clearIn_13 fu j ω).1 = -5 ∨ ∃ m, m ≤ 500 ∧ (f_X7_clearIn_13 fu j ω).1 = nI m := by
  intro fu
  induction fu with
  | zero => exact fun j ω => Or.inr ⟨0, by omega, rfl⟩
  | succ fu ih =>
    intro j ω
    unfold f_X7_clearIn_13
    by_cases q : 500 < j
    · rw [if_pos q]; exact Or.inl rfl
    rw [if_neg q]
    by_cases q1 : f_X5_isClear 33 ω = 0
    · rw [if_pos q1]; exact ih _ _
    · rw [if_neg q1]; exact Or.inr ⟨j, by omega, rfl⟩
theorem clear_at {ω μ : Mem} (h : LW ω μ) : ¬ 500 < (f_X7_clearIn ω).1 ∧ CF 33 ω (f_X7_clearIn ω).2 := by
  unfold f_X7_clearIn
  refine ⟨?_, ?_⟩
  · rcases clear_500 502 0 (f_X5_copyFrom 33 1 ω) with e | ⟨m, hm, e⟩
    · rw [e]; decide
    · rw [e]; exact nI_nlt (a := 500) hm (by decide)
  · obtain ⟨t, h1, h2⟩ := h.sm
    have s33 : RS 33 (f_X5_copyFrom 33 1 ω) (μ 121) := h2.1.copy (by omega)
    obtain ⟨r, ω', μ', e1, -, c, -⟩ := clear_lp 502 0 t (f_X5_copyFrom 33 1 ω) μ (by omega) (by omega) ⟨s33, h2.2⟩ (by omega)
    rw [e1]
    exact (CF.copy (by omega)).tr c
