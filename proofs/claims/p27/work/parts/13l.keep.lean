theorem keep7_at : ∀ (fu j : Nat) (μ : Mem), 108 < j + fu → j ≤ 108 → ∃ μ' : Mem, f_X8_keep_7 fu j μ = ((μ' 121 4), μ') ∧ (∀ z, j ≤ z → z < 108 → μ' 124 z = μ 121 z) ∧ (∀ z, z < j → μ' 124 z = μ 124 z) ∧ (∀ i, i ≠ 120 → i ≠ 124 → μ' i = μ i) ∧ ∀ z, μ' 120 z = if z = 6 then 1 else μ 120 z := by
  intro fu
  induction fu with
  | zero => intro j μ h1 h2; omega
  | succ fu ih =>
    intro j μ h1 h2
    unfold f_X8_keep_7
    by_cases h : 108 ≤ j
    · rw [if_pos h]
      refine ⟨_, rfl, fun z a b => by omega, fun z a => by rw [st_nei (by decide)], fun i a b => st_nei (fun e => a e.symm), fun z => ?_⟩
      by_cases hz : z = 6
      · rw [hz, st_eq]; rfl
      · rw [st_ne (fun e => hz e.symm), if_neg hz]
    · rw [if_neg h]
      obtain ⟨μ', a1, a2, a3, a4, a5⟩ := ih (j + 1) (st μ 124 j (μ 121 j)) (by omega) (by omega)
      refine ⟨μ', a1, fun z b1 b2 => ?_, fun z b1 => ?_, fun i b1 b2 => (a4 i b1 b2).trans (st_nei (fun e => b2 e.symm)), a5⟩
      · by_cases hz : z = j
        · rw [hz, a3 j (by omega), st_eq]
        · exact a2 z (by omega) b2
      · rw [a3 z (by omega), st_ne (by omega)]
theorem op_keep {ω μ : Mem} (h : LW ω μ) : OPW ω μ (f_X7_keep ω) (f_X8_keep μ) := by
  refine OPW.th ?_
  have h := h.th
  unfold f_X8_keep f_X7_keep
  generalize st μ 120 0 0 = μ at *
  obtain ⟨μ', a1, a2, a3, a4, a5⟩ := keep7_at 109 0 μ (by decide) (by decide)
  rw [a1]
  have cc : CF 17 ω (f_X5_copyFrom 17 1 ω) := CF.copy (by decide)
  have c1 : ∀ z, z ≠ 0 → (z < 17 ∨ 33 ≤ z) → (st (f_X5_copyFrom 17 1 ω) 0 6 1) z = ω z := fun z h1 h2 => (st_nei (fun e => h1 e.symm)).trans (cc z (by omega))
  have e121 := a4 121 (by decide) (by decide)
  refine ⟨?_, ?_, fun z hz => c1 z (by omega) (by omega), fun z hz => a4 z (by omega) (by omega)⟩
  · dsimp only
    rw [c1 1 (by decide) (by decide), e121]; exact h.rs.s4
  dsimp only
  refine ⟨?_, ⟨?_, fun q => ?_⟩, ?_, ?_, ?_, fun j hj => ?_⟩
  · rw [e121]; exact h.1.congr (fun j hj => c1 _ (by omega) (by omega))
  · rw [st_eq, a5 6]; rfl
  · have s1 : SX 17 (f_X5_copyFrom 17 1 ω) (μ 121) := h.1.copy (by decide)
    exact (s1.congr (fun j hj => st_nei (by omega))).cs (fun j hj => a2 j (by omega) hj)
  · exact h.2.2.1.congr (fun z h1 h2 => c1 z (by omega) (by omega)) (a5 4) (a4 123 (by decide) (by decide))
  · rw [c1 118 (by decide) (by decide), a5 8]; exact h.2.2.2.1
  · rw [a5 8]; exact h.2.2.2.2.1
  · rw [a5 8] at hj
    rw [c1 119 (by decide) (by decide), a4 125 (by decide) (by decide)]; exact h.2.2.2.2.2 j hj
theorem rest21_at : ∀ (fu j : Nat) (μ : Mem), 108 < j + fu → j ≤ 108 → ∃ μ' : Mem, f_X8_restore_21 fu j μ = ((μ' 121 4), μ') ∧ (∀ z, j ≤ z → z < 108 → μ' 121 z = μ 124 z) ∧ (∀ z, z < j → μ' 121 z = μ 121 z) ∧ (∀ i, i ≠ 121 → μ' i = μ i) := by
  intro fu
  induction fu with
  | zero => intro j μ h1 h2; omega
  | succ fu ih =>
    intro j μ h1 h2
    unfold f_X8_restore_21
    by_cases h : 108 ≤ j
    · rw [if_pos h]
      exact ⟨_, rfl, fun z a b => by omega, fun z a => rfl, fun i a => rfl⟩
    · rw [if_neg h]
      obtain ⟨μ', a1, a2, a3, a4⟩ := ih (j + 1) (st μ 121 j (μ 124 j)) (by omega) (by omega)
      refine ⟨μ', a1, fun z b1 b2 => ?_, fun z b1 => ?_, fun i b1 => (a4 i b1).trans (st_nei (fun e => b1 e.symm))⟩
      · by_cases hz : z = j
        · rw [hz, a3 j (by omega), st_eq]
        · rw [a2 z (by omega) b2, st_nei (by decide)]
      · rw [a3 z (by omega), st_ne (by omega)]
theorem op_restore {ω μ : Mem} (h : LW ω μ) : OPW ω μ (f_X7_restore ω) (f_X8_restore μ) := by
  refine OPW.th ?_
  have h := h.th
  unfold f_X8_restore f_X7_restore f_X8_restore_5
  generalize st μ 120 0 0 = μ at *
  rw [h.2.1.1]
  by_cases q : bb (μ 120 6) = 0
  · rw [if_pos q, if_pos q]; exact OPW.same h
  · rw [if_neg q, if_neg q]
    have hr := h.rec
    obtain ⟨μ', a1, a2, a3, a4⟩ := rest21_at 109 0 (f_X8_records μ) (by decide) (by decide)
    rw [a1]
    have cc : CF 1 (f_X1_record 1 ω) (f_X5_copyFrom 1 17 (f_X1_record 1 ω)) := CF.copy (by decide)
    have q2 : ¬ bb ((f_X8_records μ) 120 6) = 0 := by rw [(records_fr μ).2 6 (by decide)]; exact q
    have s1 : SX 1 (f_X5_copyFrom 1 17 (f_X1_record 1 ω)) (μ' 121) := ((hr.2.1.2 q2).copy (by decide)).cs (fun j hj => a2 j (by omega) hj)
    have hl : LW (f_X5_copyFrom 1 17 (f_X1_record 1 ω)) μ' := hr.st1 s1 cc a4
    refine ⟨?_, hl, fun z hz => (cc z (by omega)).trans (rec_hi h z hz), fun z hz => (a4 z (by omega)).trans (recs_lo μ z hz)⟩
    dsimp only
    exact hl.rs.s4
