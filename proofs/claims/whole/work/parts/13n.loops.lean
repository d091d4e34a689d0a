theorem LR.tick {ω μ : Mem} {T : Nat} (h : LR ω μ) (hT : μ 121 4 = nI T) (hT2 : T < 99999) : LR (f_X5_passTick 1 ω) (f_X8_ticks μ) ∧ (f_X8_ticks μ) 121 4 = nI (T + 1) ∧ CF 1 ω (f_X5_passTick 1 ω) ∧ MF μ (f_X8_ticks μ) := by
  obtain ⟨t, h1, h2⟩ := h.sm
  have e : t = T := (nI_eq (by omega) (by omega)).1 (h2.2.2.2.1.1.symm.trans hT)
  subst e
  obtain ⟨a, b, c⟩ := tick_sim h2 (Or.inl rfl) (by omega)
  exact ⟨h.st1 ⟨t + 1, by omega, a.1, a.2⟩ b c.1, a.2.2.2.1.1, b, c⟩
theorem tot_eq {ω μ : Mem} (h : LR ω μ) : f_X2_total 12 ω = f_X8_totals μ := by
  unfold f_X2_total f_X8_totals
  have a := h.rs.2.2.1
  have a0 : ω 16 0 = μ 121 8 := a 0 (by decide)
  have a1 : ω 16 1 = μ 121 9 := a 1 (by decide)
  have a2 : ω 16 2 = μ 121 10 := a 2 (by decide)
  have a3 : ω 16 3 = μ 121 11 := a 3 (by decide)
  rw [show 12 + 4 = 16 from rfl, a0, a1, a2, a3, Int32.zero_add]
theorem pass_lp (t : Nat) (v : Int32) : ∀ (fu j T : Nat) (ω μ : Mem), t < j + fu → j ≤ t → LR ω μ → μ 121 4 = nI T → T + (t - j) ≤ 99999 → OPP ω μ (f_X7_pass_55 fu t v j ω) (f_X8_pass_46 fu t v j μ) := by
  intro fu
  induction fu with
  | zero => intro j T ω μ h1 h2; omega
  | succ fu ih =>
    intro j T ω μ h1 h2 h hT hT2
    unfold f_X7_pass_55 f_X8_pass_46
    by_cases q : t ≤ j
    · rw [if_pos q, if_pos q, tot_eq h]; exact OPP.same h
    · rw [if_neg q, if_neg q]
      obtain ⟨a, b, c, d⟩ := h.tick hT (by omega)
      obtain ⟨r1, r2, r3, r4⟩ := ih (j + 1) (T + 1) _ _ (by omega) (by omega) a b (by omega)
      exact ⟨r1, r2, fun z hz => (r3 z hz).trans (c z (by omega)), fun z hz => (r4 z hz).trans (d.1 z (by omega))⟩
theorem op_pass {ω μ : Mem} {t : Nat} (h : LR ω μ) (ht : 1 ≤ t ∧ t ≤ 200) : OPP ω μ (f_X7_pass t ω) (f_X8_pass t μ) := by
  refine OPP.th ?_
  have h := h.th
  unfold f_X8_pass f_X7_pass f_X8_pass_5
  generalize st μ 120 0 0 = μ at *
  rw [isW_in (μ := μ), h.rs.s4]
  obtain ⟨T, h1, h2⟩ := h.sm
  have hT := h2.2.2.2.1.1
  have qi : ¬ f_X8_in (nI t) 1 200 μ = 0 := by
    unfold f_X8_in
    have a1 : ¬ nI t < 1 := nI_nlt (b := 1) ht.1 (by omega)
    have a2 : ¬ 200 < nI t := nI_nlt (a := 200) ht.2 (by decide)
    rw [if_neg a1, if_neg a2]
    decide
  rw [if_neg qi, if_neg qi, hT, nI_add]
  by_cases q : nI (T + t) ≤ 99999
  · rw [if_pos q, if_pos q]
    have q2 := (nI_leI (b := 99999) (by omega) (by decide)).1 q
    rw [tot_eq h.rec]
    obtain ⟨r1, r2, r3, r4⟩ := pass_lp t (f_X8_totals (f_X8_records μ)) 201 0 T _ _ (by omega) (by omega) h.rec (by rw [records_121]; exact hT) (by omega)
    exact ⟨r1, r2, fun z hz => (r3 z hz).trans (rec_hi h z hz), fun z hz => (r4 z hz).trans (recs_lo μ z hz)⟩
  · rw [if_neg q, if_neg q]; exact OPP.same h
theorem thr_ge {μ : Mem} {v : Int32} (h0 : 100 ≤ (μ 121 0).toInt) (hv : v.toInt < 100) : v < μ 121 0 := by
  rw [Int32.lt_iff_toInt_lt]; omega
theorem stays_lp {k : Nat} {ω μ : Mem} (h : LR ω μ) (hk : k < 4) : ∀ (fu j : Nat) (v : Int32), rg v 1000 → v.toNatClampNeg + j ≤ 1000 → f_X8_staysOpen_46 fu k j v μ = (f_X7_staysOpen_53 fu k (μ 121 0) v j ω, μ) := by
  intro fu
  induction fu with
  | zero => intro j v h1 h2; rfl
  | succ fu ih =>
    intro j v h1 h2
    unfold f_X8_staysOpen_46 f_X7_staysOpen_53
    obtain ⟨T, t1, t2⟩ := h.sm
    by_cases q : v < μ 121 0
    · rw [if_pos q, if_pos q]
    · rw [if_neg q, if_neg q]
      obtain ⟨n, hn, en⟩ := rg_ex h1
      have hc : v.toNatClampNeg = n := by rw [en]; exact nI_clamp (by omega)
      have hi : v.toInt = n := by rw [en]; exact nI_toInt (by omega)
      have hn2 : 100 ≤ n := by
        by_cases z : 100 ≤ n
        · exact z
        · exact absurd (thr_ge t2.2.1.1 (by omega)) q
      have hj : ¬ 1000 ≤ j := by omega
      rw [if_neg hj]
      have e : f_X0_temperatureAfter (5 + k) v 0 ω = f_X8_cooled (f_X8_get k 0 μ) v 0 μ := (temp_eq (B := 1) h.rs hk (h.ib hk)).trans (byFlame0 h1)
      rw [e]
      obtain ⟨a, b⟩ := cooled_lt (k := f_X8_get k 0 μ) (ω := μ) h1 (by omega)
      exact ih (j + 1) _ a (by omega)
theorem op_staysOpen {ω μ : Mem} {k : Nat} (h : LR ω μ) (hk : k < 4) : OPP ω μ (f_X7_staysOpen k ω, ω) (f_X8_staysOpen k μ) := by
  refine OPP.th ?_
  have h := h.th
  unfold f_X8_staysOpen f_X7_staysOpen
  generalize st μ 120 0 0 = μ at *
  rw [if_neg (isB_ok hk)]
  have e1 : ω (5 + k) 1 = μ 121 (68 + 10 * k + 1) := h.rs.b1 hk
  have e6 : bb (ω (5 + k) 6) = μ 121 (68 + 10 * k + 6) := h.rs.b6 hk
  have e5 : ω (5 + k) 5 = μ 121 (68 + 10 * k + 5) := h.rs.b5 hk
  have b6 := bb01 (ω (5 + k) 6)
  rw [e6] at b6
  rw [e1, e6, e5, h.rs.v0 (B := 1)]
  change OPP ω μ _ (if μ 121 (68 + 10 * k + 1) = 0 then (-4, μ) else if μ 121 (68 + 10 * k + 6) = 1 then (-4, μ) else f_X8_staysOpen_46 1001 k 0 (μ 121 (68 + 10 * k + 5)) μ)
  by_cases q : μ 121 (68 + 10 * k + 1) = 0
  · rw [if_pos q, if_pos q]; exact OPP.same h
  · rw [if_neg q, if_neg q]
    rcases b6 with z | z
    · have z1 : ¬ μ 121 (68 + 10 * k + 6) = 1 := by rw [z]; decide
      rw [if_pos z, if_neg z1]
      have r5 := (h.ib hk).2.2.2
      rw [stays_lp h hk 1001 0 _ r5 r5.2]
      exact OPP.same h
    · have z0 : ¬ μ 121 (68 + 10 * k + 6) = 0 := by rw [z]; decide
      rw [if_neg z0, if_pos z]; exact OPP.same h
theorem press_lp {k : Nat} {ω μ : Mem} {t : Int32} (h : LR ω μ) (hk : k < 4) (ht : t = 1 ∨ t = 2) : ∀ (fu j : Nat) (v : Int32), rg v 1000 → (j ≤ v.toNatClampNeg) → f_X8_toPress_44 fu k t (f_X8_get k 0 μ) j v μ = (f_X7_toPress_56 fu k t (μ 121 0) (f_X0_heatAt (5 + k) t ω) v j ω, μ) := by
  intro fu
  induction fu with
  | zero => intro j v h1 h2; rfl
  | succ fu ih =>
    intro j v h1 h2
    unfold f_X8_toPress_44 f_X7_toPress_56
    obtain ⟨T, t1, t2⟩ := h.sm
    by_cases q : μ 121 0 ≤ v
    · rw [if_pos q, if_pos q]
    · rw [if_neg q, if_neg q]
      have e0 : f_X0_heatAt (5 + k) t ω = f_X8_heat (f_X8_get k 0 μ) t μ := heat_eq (B := 1) h.rs hk (h.ib hk) ht
      have e : f_X0_temperatureAfter (5 + k) v (f_X0_heatAt (5 + k) t ω) ω = f_X8_byFlame (f_X8_get k 0 μ) v (f_X8_heat (f_X8_get k 0 μ) t μ) μ := by
        rw [e0]; exact temp_eq (B := 1) h.rs hk (h.ib hk)
      obtain ⟨a, b, c⟩ := byFlame_up (k := f_X8_get k 0 μ) (tap := t) (ω := μ) h1 q t2.2.1.2
      have hj : ¬ 1000 ≤ j := by omega
      rw [if_neg hj, e]
      exact ih (j + 1) _ a (by omega)
theorem op_toPress {ω μ : Mem} {k : Nat} {t : Int32} (h : LR ω μ) (hk : k < 4) : OPP ω μ (f_X7_toPress k t ω, ω) (f_X8_toPress k t μ) := by
  refine OPP.th ?_
  have h := h.th
  unfold f_X8_toPress f_X7_toPress
  generalize st μ 120 0 0 = μ at *
  rw [if_neg (isB_ok hk), isW_in (μ := μ)]
  by_cases q : f_X8_in t 1 2 μ = 0
  · rw [if_pos q, if_pos q]; exact OPP.same h
  · rw [if_neg q, if_neg q]
    have ht : t = 1 ∨ t = 2 := by
      obtain ⟨a, b⟩ := in_bd q
      have a' : 1 ≤ t.toInt := a
      have b' : t.toInt ≤ 2 := b
      rcases (show t.toInt = 1 ∨ t.toInt = 2 by omega) with z | z
      · exact Or.inl (Int32.toInt_inj.mp z)
      · exact Or.inr (Int32.toInt_inj.mp z)
    have e5 : ω (5 + k) 5 = μ 121 (68 + 10 * k + 5) := h.rs.b5 hk
    have r5 := (h.ib hk).2.2.2
    rw [e5, h.rs.v0 (B := 1)]
    have e := press_lp h hk ht 1001 0 (μ 121 (68 + 10 * k + 5)) r5 (Nat.zero_le _)
    change OPP ω μ _ (f_X8_toPress_44 1001 k t (f_X8_get k 0 μ) 0 (μ 121 (68 + 10 * k + 5)) μ)
    rw [e]
    exact OPP.same h
theorem blown_lp {k : Nat} {ω μ : Mem} (h : LR ω μ) : ∀ (fu j : Nat), f_X8_blownIn_28 fu k j μ = (f_X7_blownIn_33 fu k (f_X8_strength k μ) j ω, μ) := by
  intro fu
  induction fu with
  | zero => intro j; rfl
  | succ fu ih =>
    intro j
    unfold f_X8_blownIn_28 f_X7_blownIn_33
    have e : f_X3_draftIn 9 (ω 1 4 + nI j) ω = f_X8_draftAt (μ 121 4 + nI j) μ := by
      rw [h.rs.s4]; exact draft_eq (B := 1) h.rs
    rw [e]
    by_cases q : 500 < j
    · rw [if_pos q, if_pos q]
    · rw [if_neg q, if_neg q]
      by_cases q2 : f_X8_draftAt (μ 121 4 + nI j) μ ≤ f_X8_strength k μ
      · rw [if_pos q2, if_pos q2]; exact ih (j + 1)
      · rw [if_neg q2, if_neg q2]
theorem op_blownIn {ω μ : Mem} {k : Nat} (h : LR ω μ) (hk : k < 4) : OPP ω μ (f_X7_blownIn k ω, ω) (f_X8_blownIn k μ) := by
  refine OPP.th ?_
  have h := h.th
  unfold f_X8_blownIn f_X7_blownIn f_X8_blownIn_5
  generalize st μ 120 0 0 = μ at *
  rw [if_neg (isB_ok hk)]
  have e1 : ω (5 + k) 1 = μ 121 (68 + 10 * k + 1) := h.rs.b1 hk
  have es : f_X0_strength (5 + k) ω = f_X8_strength k μ := strength_eq (B := 1) h.rs hk (h.ib hk)
  rw [e1, es, blown_lp (ω := ω) h]
  change OPP ω μ _ (if μ 121 (68 + 10 * k + 1) = 0 then (-4, μ) else _)
  by_cases q : μ 121 (68 + 10 * k + 1) = 0
  · rw [if_pos q, if_pos q]; exact OPP.same h
  · rw [if_neg q, if_neg q]; exact OPP.same h
