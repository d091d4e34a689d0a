theorem LW.tick {ω μ : Mem} {T : Nat} (h : LW ω μ) (hT : μ 121 4 = nI T) (hT2 : T < 99999) : LW (f_X5_passTick 1 ω) (f_X8_ticks μ) ∧ (f_X8_ticks μ) 121 4 = nI (T + 1) ∧ CF 1 ω (f_X5_passTick 1 ω) ∧ MF μ (f_X8_ticks μ) := by
  obtain ⟨t, h1, h2⟩ := h.sm
  have e : t = T := (nI_eq (by omega) (by omega)).1 (h2.2.2.2.1.1.symm.trans hT)
  subst e
  obtain ⟨a, b, c⟩ := tick_sim h2 (Or.inl rfl) (by omega)
  exact ⟨h.st1 ⟨t + 1, by omega, a.1, a.2⟩ b c.1, a.2.2.2.1.1, b, c⟩
theorem tot_eq {ω μ : Mem} (h : LW ω μ) : f_X2_total 12 ω = f_X8_totals μ := by
  unfold f_X2_total f_X8_totals
  have a := h.rs.2.2.1
  have a0 : ω 16 0 = μ 121 8 := a 0 (by decide)
  have a1 : ω 16 1 = μ 121 9 := a 1 (by decide)
  have a2 : ω 16 2 = μ 121 10 := a 2 (by decide)
  have a3 : ω 16 3 = μ 121 11 := a 3 (by decide)
  rw [show 12 + 4 = 16 from rfl, a0, a1, a2, a3, Int32.zero_add]
theorem pass_lp (t : Nat) (v : Int32) : ∀ (fu j T : Nat) (ω μ : Mem), t < j + fu → j ≤ t → LW ω μ → μ 121 4 = nI T → T + (t - j) ≤ 99999 → OPW ω μ (f_X7_pass_55 fu t v j ω) (f_X8_pass_46 fu t v j μ) := by
  intro fu
  induction fu with
  | zero => intro j T ω μ h1 h2; omega
  | succ fu ih =>
    intro j T ω μ h1 h2 h hT hT2
    unfold f_X7_pass_55 f_X8_pass_46
    by_cases q : t ≤ j
    · rw [if_pos q, if_pos q, tot_eq h]; exact OPW.same h
    · rw [if_neg q, if_neg q]
      obtain ⟨a, b, c, d⟩ := h.tick hT (by omega)
      obtain ⟨r1, r2, r3, r4⟩ := ih (j + 1) (T + 1) _ _ (by omega) (by omega) a b (by omega)
      exact ⟨r1, r2, fun z hz => (r3 z hz).trans (c z (by omega)), fun z hz => (r4 z hz).trans (d.1 z (by omega))⟩
theorem op_pass {ω μ : Mem} {t : Nat} (h : LW ω μ) (ht : 1 ≤ t ∧ t ≤ 200) : OPW ω μ (f_X7_pass t ω) (f_X8_pass t μ) := by
  refine OPW.th ?_
  have h := h.th
  unfold f_X8_pass f_X7_pass f_X8_pass_5
  generalize st μ 120 0 0 = μ at *
  rw [isW_in (μ := μ), h.rs.s4]
  obtain ⟨T, h1, h2⟩ := h.sm
  have hT := h2.2.2.2.1.1
  have qi : ¬ f_X8_in (nI t) 1 200 μ = 0 := by
    unfold f_X8_in
    have a1 : ¬ nI t < 1 := nI_nlt (b := 1) ht.1 (by omega)
    have a2 : ¬ 200 < nI t := nI_nlt (a := 200) ht.2 (by decide)
    rw [if_neg a1, if_neg a2]
    decide
  rw [if_neg qi, if_neg qi, hT, nI_add]
  by_cases q : nI (T + t) ≤ 99999
  · rw [if_pos q, if_pos q]
    have q2 := (nI_leI (b := 99999) (by omega) (by decide)).1 q
    rw [tot_eq h.rec]
    obtain ⟨r1, r2, r3, r4⟩ := pass_lp t (f_X8_totals (f_X8_records μ)) 201 0 T _ _ (by omega) (by omega) h.rec (by rw [records_121]; exact hT) (by omega)
    exact ⟨r1, r2, fun z hz => (r3 z hz).trans (rec_hi h z hz), fun z hz => (r4 z hz).trans (recs_lo μ z hz)⟩
  · rw [if_neg q, if_neg q]; exact OPW.same h
