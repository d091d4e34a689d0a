theorem nI4 {w : Int32} (h : rg w 3) : w = 0 ∨ w = 1 ∨ w = 2 ∨ w = 3 := by
  obtain ⟨j, hj, rfl⟩ := rg_ex h
  rcases (show j = 0 ∨ j = 1 ∨ j = 2 ∨ j = 3 by omega) with rfl | rfl | rfl | rfl
  · exact Or.inl rfl
  · exact Or.inr (Or.inl rfl)
  · exact Or.inr (Or.inr (Or.inl rfl))
  · exact Or.inr (Or.inr (Or.inr rfl))
theorem in_bd {v a b : Int32} {μ : Mem} (h : ¬ f_X8_in v a b μ = 0) : a.toInt ≤ v.toInt ∧ v.toInt ≤ b.toInt := by
  unfold f_X8_in at h
  by_cases q : v < a
  · rw [if_pos q] at h; exact absurd rfl h
  · rw [if_neg q] at h
    by_cases q1 : b < v
    · rw [if_pos q1] at h; exact absurd rfl h
    · rw [Int32.lt_iff_toInt_lt] at q q1
      omega
/-- a setting laid down keeps the bounds -/
theorem IV.set {t g k : Nat} {s : Nat → Int32} {v : Int32} (h : IV t g s) (hk : k < 4) (h0 : k = 0 → 100 ≤ v.toInt ∧ v.toInt ≤ 450) (h2 : k = 2 → rg v 50) : IV t g (upd s k v) := by
  obtain ⟨a0, a2, ⟨h4, h5⟩, h7, h43, hb⟩ := h
  have e43 : upd s k v 43 = s 43 := pk_un (by omega)
  unfold IV
  rw [pk_un (j := 4) (by omega), pk_un (j := 5) (by omega), pk_un (j := 7) (by omega), e43]
  have hp := h43.1
  refine ⟨?_, ?_, ⟨h4, h5⟩, h7, ⟨hp, fun j hj => ?_⟩, fun j hj => ?_⟩
  · by_cases q : k = 0
    · subst q; rw [pk_us]; exact h0 rfl
    · rw [pk_un (fun e => q e.symm)]; exact a0
  · by_cases q : k = 2
    · subst q; rw [pk_us]; exact h2 rfl
    · rw [pk_un (fun e => q e.symm)]; exact a2
  · rw [pk_un (by omega)]; exact h43.2 j hj
  · unfold IB
    rw [pk_un (by omega), pk_un (by omega), pk_un (by omega), pk_un (by omega)]
    exact hb j hj
theorem LW.set {ω μ : Mem} {k : Nat} {v : Int32} (h : LW ω μ) (hk : k < 4) (h0 : k = 0 → 100 ≤ v.toInt ∧ v.toInt ≤ 450) (h2 : k = 2 → rg v 50) : LW (st ω 3 k v) (st μ 121 k v) := by
  obtain ⟨t, h1, h3⟩ := h.sm
  refine h.st1 ⟨t, h1, ?_, ?_⟩ (CF.s (B := 1) (by omega)) (fun i hi => st_nei (fun e => hi e.symm))
  · rw [row_st]; exact h3.1.set (B := 1) hk
  · rw [row_st]; exact h3.2.set hk h0 h2
theorem set_one {ω μ : Mem} {k : Nat} {v x : Int32} (h : LW ω μ) (hk : k < 4) (hx : x = μ 121 k) (h0 : k = 0 → 100 ≤ v.toInt ∧ v.toInt ≤ 450) (h2 : k = 2 → rg v 50) : OPW ω μ (if x = v then (-5, ω) else (x, st (f_X1_record 1 ω) 3 k v)) (if μ 121 k = v then (-5, μ) else (μ 121 k, st (f_X8_records μ) 121 k v)) := by
  rw [hx]
  by_cases q : μ 121 k = v
  · rw [if_pos q, if_pos q]; exact OPW.same h
  · rw [if_neg q, if_neg q]
    exact ⟨rfl, h.rec.set hk h0 h2, fun z hz => (st_nei (by omega)).trans (rec_hi h z hz), fun z hz => (st_nei (by omega)).trans (recs_lo μ z hz)⟩
theorem op_set {ω μ : Mem} {w v : Int32} (h : LW ω μ) : OPW ω μ (f_X7_set w v ω) (f_X8_set w v μ) := by
  refine OPW.th ?_
  have h := h.th
  unfold f_X8_set f_X7_set f_X8_set_5
  generalize st μ 120 0 0 = μ at *
  unfold f_X4_isOne
  rw [isW_in (μ := μ)]
  by_cases q : f_X8_in w 0 3 μ = 0
  · rw [if_pos q, if_pos q]; exact OPW.same h
  · rw [if_neg q, if_neg q]
    rcases nI4 (in_rg (n := 3) rfl q) with rfl | rfl | rfl | rfl
    · have a : f_X4_allows 0 v ω = f_X8_isSetting 0 v μ := rfl
      rw [a, val0]
      by_cases q1 : f_X8_isSetting 0 v μ = 0
      · rw [if_pos q1, if_pos q1]; exact OPW.same h
      · rw [if_neg q1, if_neg q1]
        exact set_one (k := 0) h (by decide) (h.rs.1 0 (by decide)) (fun _ => in_bd (a := 100) (b := 450) (μ := μ) q1) (fun e => absurd e (by decide))
    · have a : f_X4_allows 1 v ω = f_X8_isSetting 1 v μ := rfl
      rw [a, val1]
      by_cases q1 : f_X8_isSetting 1 v μ = 0
      · rw [if_pos q1, if_pos q1]; exact OPW.same h
      · rw [if_neg q1, if_neg q1]
        exact set_one (k := 1) h (by decide) (h.rs.1 1 (by decide)) (fun e => absurd e (by decide)) (fun e => absurd e (by decide))
    · have a : f_X4_allows 2 v ω = f_X8_isSetting 2 v μ := rfl
      rw [a, val2]
      by_cases q1 : f_X8_isSetting 2 v μ = 0
      · rw [if_pos q1, if_pos q1]; exact OPW.same h
      · rw [if_neg q1, if_neg q1]
        exact set_one (k := 2) h (by decide) (h.rs.1 2 (by decide)) (fun e => absurd e (by decide)) (fun _ => in_rg (n := 50) (ω := μ) rfl q1)
    · have a : f_X4_allows 3 v ω = f_X8_isSetting 3 v μ := rfl
      rw [a, val3]
      by_cases q1 : f_X8_isSetting 3 v μ = 0
      · rw [if_pos q1, if_pos q1]; exact OPW.same h
      · rw [if_neg q1, if_neg q1]
        exact set_one (k := 3) h (by decide) (h.rs.1 3 (by decide)) (fun e => absurd e (by decide)) (fun e => absurd e (by decide))
theorem op_setting {ω μ : Mem} {w : Int32} (h : LW ω μ) : OPW ω μ (f_X7_setting w ω, ω) (f_X8_setting w μ) := by
  refine OPW.th ?_
  have h := h.th
  unfold f_X8_setting f_X7_setting f_X8_setting_5
  generalize st μ 120 0 0 = μ at *
  unfold f_X4_isOne
  rw [isW_in (μ := μ)]
  by_cases q : f_X8_in w 0 3 μ = 0
  · rw [if_pos q, if_pos q]; exact OPW.same h
  · rw [if_neg q, if_neg q]
    rcases nI4 (in_rg (n := 3) rfl q) with rfl | rfl | rfl | rfl
    · rw [val0]; exact OPW.eq h (h.rs.1 0 (by decide))
    · rw [val1]; exact OPW.eq h (h.rs.1 1 (by decide))
    · rw [val2]; exact OPW.eq h (h.rs.1 2 (by decide))
    · rw [val3]; exact OPW.eq h (h.rs.1 3 (by decide))
theorem op_light {ω μ : Mem} {k : Nat} (h : LW ω μ) (hk : k < 4) : OPW ω μ (f_X7_light k ω) (f_X8_light k μ) := by
  refine OPW.th ?_
  have h := h.th
  unfold f_X8_light f_X7_light f_X8_light_5
  generalize st μ 120 0 0 = μ at *
  rw [if_neg (isB_ok hk)]
  have eo : f_X5_isOpen 1 (5 + k) ω = f_X8_isOpen k μ := open_eq (B := 1) h.rs hk (h.ib hk)
  have e4 : bb (ω (5 + k) 4) = μ 121 (68 + 10 * k + 4) := h.rs.b4 hk
  have g4 : f_X8_get k 4 μ = μ 121 (68 + 10 * k + 4) := rfl
  have b4 := bb01 (ω (5 + k) 4)
  rw [e4] at b4
  have ea : f_X5_allowsFire 1 ω = if μ 121 3 ≤ μ 121 5 then 0 else 1 := by
    unfold f_X5_allowsFire
    rw [h.rs.v3 (B := 1), h.rs.s5]
  rw [eo, e4, g4, ea]
  by_cases q : f_X8_isOpen k μ = 0
  · rw [if_pos q, if_pos q]; exact OPW.same h
  · rw [if_neg q, if_neg q]
    rcases b4 with z | z
    · have z1 : ¬ μ 121 (68 + 10 * k + 4) = 1 := by rw [z]; decide
      rw [if_pos z, if_neg z1]
      by_cases q5 : μ 121 3 ≤ μ 121 5
      · have q5' : ¬ μ 121 5 < μ 121 3 := Int32.not_lt.mpr q5
        rw [if_pos q5, if_neg q5']; exact OPW.same h
      · have q5' : μ 121 5 < μ 121 3 := Int32.not_le.mp q5
        rw [if_neg q5, if_pos q5']
        refine (show OPW ω μ (if f_X5_draft 1 (f_X1_record 1 ω) ≤ f_X0_strength (5 + k) (f_X1_record 1 ω) then (1, f_X5_kindle 1 (nI k) (5 + k) (f_X1_record 1 ω)) else (0, f_X1_record 1 ω)) _ from ?_)
        have hr := h.rec
        have ed : f_X5_draft 1 (f_X1_record 1 ω) = f_X8_draftAt ((f_X8_records μ) 121 4) (f_X8_records μ) := by
          unfold f_X5_draft
          rw [hr.rs.s4]
          exact draft_eq hr.rs
        have es : f_X0_strength (5 + k) (f_X1_record 1 ω) = f_X8_strength k (f_X8_records μ) := strength_eq (B := 1) hr.rs hk (hr.ib hk)
        rw [ed, es]
        by_cases q6 : f_X8_draftAt ((f_X8_records μ) 121 4) (f_X8_records μ) ≤ f_X8_strength k (f_X8_records μ)
        · rw [if_pos q6, if_pos q6]
          obtain ⟨t, h1, h2⟩ := hr.sm
          have ht : ¬ (f_X8_records μ) 121 (68 + 10 * k + 1) = 0 := by
            rw [records_121]
            rcases open01 k μ with o | o
            · exact absurd o q
            · exact o.2
          have i4 := h2.lay (w := 4) (v := 1) (v' := 1) hk (by decide) (by decide) ((h2.ib hk).f4 (Or.inr ht))
          have i7 := i4.lay (w := 7) (v := 0) (v' := 0) hk (by decide) (by decide) ((i4.ib hk).fo (by omega) (by decide))
          have i8 := i7.tells (ev := 0) (x := nI k) (by decide)
          have mf := (MF.lay (k := k) (w := 4) (v := 1) (μ := f_X8_records μ)).tr ((MF.lay (k := k) (w := 7) (v := 0)).tr (MF.tells (ev := 0) (b := nI k) i7.n12 (by decide)))
          have cf := (CF.s (B := 1) (i := 1 + 4 + k) (k := 4) (ω := f_X1_record 1 ω) (v := 1) (by omega)).tr ((CF.s (B := 1) (i := 1 + 4 + k) (k := 7) (v := 0) (by omega)).tr (CF.note (B := 1) (ev := 0) (bu := nI k) (ti := (st (st (f_X1_record 1 ω) (1 + 4 + k) 4 1) (1 + 4 + k) 7 0) 1 4) (by decide)))
          refine ⟨rfl, hr.st1 ⟨t, h1, i8⟩ cf mf.1, fun z hz => ?_, fun z hz => ?_⟩
          · exact (cf z (by omega)).trans (rec_hi h z hz)
          · exact (mf.1 z (by omega)).trans (recs_lo μ z hz)
        · rw [if_neg q6, if_neg q6]
          exact ⟨rfl, hr, rec_hi h, recs_lo μ⟩
    · have z0 : ¬ μ 121 (68 + 10 * k + 4) = 0 := by rw [z]; decide
      rw [if_neg z0, if_pos z]; exact OPW.same h
