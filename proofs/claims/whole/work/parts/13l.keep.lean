theorem op_type {ω μ : Mem} {c : Int32} (h : LR ω μ) (hc : vp_nar .char c = c) : OPP ω μ (f_X7_type c ω) (f_X8_type c μ) := by
  refine OPP.th ?_
  have h := h.th
  unfold f_X8_type f_X7_type f_X6_append
  generalize st μ 120 0 0 = μ at *
  have t1 := h.2.2.2.1
  have t2 := h.2.2.2.2.1
  have t3 := h.2.2.2.2.2
  obtain ⟨n, hn, en⟩ := rg_ex t2
  rw [t1, hc]
  rw [en] at t3
  rw [nI_clamp (by omega)] at t3
  by_cases q : n = 60
  · have e : μ 120 8 = 60 := by rw [en, q]; rfl
    rw [e]
    exact OPP.same h
  · have a1 : ¬ μ 120 8 = 60 := by
      rw [en]; exact fun e => q ((nI_eq (by omega) (by decide)).1 e)
    have a2 : ¬ μ 120 8 < 0 := by rw [en]; exact nI_pos (by omega)
    have a3 : μ 120 8 < 60 := by rw [en]; exact nI_lt (b := 60) (by omega) (by decide)
    rw [if_neg a1, if_neg a2, if_pos a3, if_neg (by decide : ¬ (1 : Int32) = 0)]
    have e8 : (μ 120 8).toNatClampNeg = n := by rw [en]; exact nI_clamp (by omega)
    rw [e8]
    have e1 : (st ω 119 n c) 118 1 = nI n := (show (st ω 119 n c) 118 1 = ω 118 1 from rfl).trans (t1.trans en)
    have e2 : (st μ 125 n c) 120 8 = nI n := (show (st μ 125 n c) 120 8 = μ 120 8 from rfl).trans en
    rw [e1, e2, nI_1]
    have c1 : ∀ z, z ≠ 118 → z ≠ 119 → (st (st ω 119 n c) 118 1 (nI (n + 1))) z = ω z := fun z h1 h2 => (st_nei (fun e => h1 e.symm)).trans (st_nei (fun e => h2 e.symm))
    have c2 : ∀ z, z ≠ 120 → z ≠ 125 → (st (st μ 125 n c) 120 8 (nI (n + 1))) z = μ z := fun z h1 h2 => (st_nei (fun e => h1 e.symm)).trans (st_nei (fun e => h2 e.symm))
    have c3 : ∀ j, j ≠ 8 → (st (st μ 125 n c) 120 8 (nI (n + 1))) 120 j = μ 120 j := fun j hj => st_ne (fun e => hj e.symm)
    dsimp only
    refine ⟨?_, ?_, fun z hz => c1 z (by omega) (by omega), fun z hz => c2 z (by omega) (by omega)⟩
    · dsimp only
      rw [st_eq, st_eq]
    dsimp only
    refine ⟨?_, ⟨?_, fun q => ?_⟩, ?_, ?_, ?_, fun j hj => ?_⟩
    · rw [c2 121 (by decide) (by decide)]; exact h.1.congr (fun j hj => c1 _ (by omega) (by omega))
    · rw [c1 0 (by decide) (by decide), c3 6 (by decide)]; exact h.2.1.1
    · rw [c3 6 (by decide)] at q
      rw [c2 124 (by decide) (by decide)]; exact (h.2.1.2 q).congr (fun j hj => c1 _ (by omega) (by omega))
    · exact h.2.2.1.congr (fun z h1 h2 => c1 z (by omega) (by omega)) (c3 4 (by decide)) (c2 123 (by decide) (by decide))
    · rw [st_eq, st_eq]
    · rw [st_eq]; exact rg_of (by omega) (by decide)
    · rw [st_eq, nI_clamp (by omega)] at hj
      rw [st_nei (i := 118) (i2 := 119) (by decide), st_nei (i := 120) (i2 := 125) (by decide)]
      by_cases hj2 : j = n
      · rw [hj2, st_eq, st_eq]
      · rw [st_ne (fun e => hj2 e.symm), st_ne (fun e => hj2 e.symm)]
        exact t3 j (by omega)
theorem keep7_at : ∀ (fu j : Nat) (μ : Mem), 108 < j + fu → j ≤ 108 → ∃ μ' : Mem, f_X8_keep_7 fu j μ = ((μ' 121 4), μ') ∧ (∀ z, j ≤ z → z < 108 → μ' 124 z = μ 121 z) ∧ (∀ z, z < j → μ' 124 z = μ 124 z) ∧ (∀ i, i ≠ 120 → i ≠ 124 → μ' i = μ i) ∧ ∀ z, μ' 120 z = if z = 6 then 1 else μ 120 z := by
  intro fu
  induction fu with
  | zero => intro j μ h1 h2; omega
  | succ fu ih =>
    intro j μ h1 h2
    unfold f_X8_keep_7
    by_cases h : 108 ≤ j
    · rw [if_pos h]
      refine ⟨_, rfl, fun z a b => by omega, fun z a => by rw [st_nei (by decide)], fun i a b => st_nei (fun e => a e.symm), fun z => ?_⟩
      by_cases hz : z = 6
      · rw [hz, st_eq]; rfl
      · rw [st_ne (fun e => hz e.symm), if_neg hz]
    · rw [if_neg h]
      obtain ⟨μ', a1, a2, a3, a4, a5⟩ := ih (j + 1) (st μ 124 j (μ 121 j)) (by omega) (by omega)
      refine ⟨μ', a1, fun z b1 b2 => ?_, fun z b1 => ?_, fun i b1 b2 => (a4 i b1 b2).trans (st_nei (fun e => b2 e.symm)), a5⟩
      · by_cases hz : z = j
        · rw [hz, a3 j (by omega), st_eq]
        · exact a2 z (by omega) b2
      · rw [a3 z (by omega), st_ne (by omega)]
theorem op_keep {ω μ : Mem} (h : LR ω μ) : OPP ω μ (f_X7_keep ω) (f_X8_keep μ) := by
  refine OPP.th ?_
  have h := h.th
  unfold f_X8_keep f_X7_keep
  generalize st μ 120 0 0 = μ at *
  obtain ⟨μ', a1, a2, a3, a4, a5⟩ := keep7_at 109 0 μ (by decide) (by decide)
  rw [a1]
  have cc : CF 17 ω (f_X5_copyFrom 17 1 ω) := CF.copy (by decide)
  have c1 : ∀ z, z ≠ 0 → (z < 17 ∨ 33 ≤ z) → (st (f_X5_copyFrom 17 1 ω) 0 6 1) z = ω z := fun z h1 h2 => (st_nei (fun e => h1 e.symm)).trans (cc z (by omega))
  have e121 := a4 121 (by decide) (by decide)
  refine ⟨?_, ?_, fun z hz => c1 z (by omega) (by omega), fun z hz => a4 z (by omega) (by omega)⟩
  · dsimp only
    rw [c1 1 (by decide) (by decide), e121]; exact h.rs.s4
  dsimp only
  refine ⟨?_, ⟨?_, fun q => ?_⟩, ?_, ?_, ?_, fun j hj => ?_⟩
  · rw [e121]; exact h.1.congr (fun j hj => c1 _ (by omega) (by omega))
  · rw [st_eq, a5 6]; rfl
  · have s1 : SX 17 (f_X5_copyFrom 17 1 ω) (μ 121) := h.1.copy (by decide)
    exact (s1.congr (fun j hj => st_nei (by omega))).cs (fun j hj => a2 j (by omega) hj)
  · exact h.2.2.1.congr (fun z h1 h2 => c1 z (by omega) (by omega)) (a5 4) (a4 123 (by decide) (by decide))
  · rw [c1 118 (by decide) (by decide), a5 8]; exact h.2.2.2.1
  · rw [a5 8]; exact h.2.2.2.2.1
  · rw [a5 8] at hj
    rw [c1 119 (by decide) (by decide), a4 125 (by decide) (by decide)]; exact h.2.2.2.2.2 j hj
theorem rest21_at : ∀ (fu j : Nat) (μ : Mem), 108 < j + fu → j ≤ 108 → ∃ μ' : Mem, f_X8_restore_21 fu j μ = ((μ' 121 4), μ') ∧ (∀ z, j ≤ z → z < 108 → μ' 121 z = μ 124 z) ∧ (∀ z, z < j → μ' 121 z = μ 121 z) ∧ (∀ i, i ≠ 121 → μ' i = μ i) := by
  intro fu
  induction fu with
  | zero => intro j μ h1 h2; omega
  | succ fu ih =>
    intro j μ h1 h2
    unfold f_X8_restore_21
    by_cases h : 108 ≤ j
    · rw [if_pos h]
      exact ⟨_, rfl, fun z a b => by omega, fun z a => rfl, fun i a => rfl⟩
    · rw [if_neg h]
      obtain ⟨μ', a1, a2, a3, a4⟩ := ih (j + 1) (st μ 121 j (μ 124 j)) (by omega) (by omega)
      refine ⟨μ', a1, fun z b1 b2 => ?_, fun z b1 => ?_, fun i b1 => (a4 i b1).trans (st_nei (fun e => b1 e.symm))⟩
      · by_cases hz : z = j
        · rw [hz, a3 j (by omega), st_eq]
        · rw [a2 z (by omega) b2, st_nei (by decide)]
      · rw [a3 z (by omega), st_ne (by omega)]
theorem op_restore {ω μ : Mem} (h : LR ω μ) : OPP ω μ (f_X7_restore ω) (f_X8_restore μ) := by
  refine OPP.th ?_
  have h := h.th
  unfold f_X8_restore f_X7_restore f_X8_restore_5
  generalize st μ 120 0 0 = μ at *
  rw [h.2.1.1]
  by_cases q : bb (μ 120 6) = 0
  · rw [if_pos q, if_pos q]; exact OPP.same h
  · rw [if_neg q, if_neg q]
    have hr := h.rec
    obtain ⟨μ', a1, a2, a3, a4⟩ := rest21_at 109 0 (f_X8_records μ) (by decide) (by decide)
    rw [a1]
    have cc : CF 1 (f_X1_record 1 ω) (f_X5_copyFrom 1 17 (f_X1_record 1 ω)) := CF.copy (by decide)
    have q2 : ¬ bb ((f_X8_records μ) 120 6) = 0 := by rw [(records_fr μ).2 6 (by decide)]; exact q
    have s1 : SX 1 (f_X5_copyFrom 1 17 (f_X1_record 1 ω)) (μ' 121) := ((hr.2.1.2 q2).copy (by decide)).cs (fun j hj => a2 j (by omega) hj)
    have hl : LR (f_X5_copyFrom 1 17 (f_X1_record 1 ω)) μ' := hr.st1 s1 cc a4
    refine ⟨?_, hl, fun z hz => (cc z (by omega)).trans (rec_hi h z hz), fun z hz => (a4 z (by omega)).trans (recs_lo μ z hz)⟩
    dsimp only
    exact hl.rs.s4
theorem undo27_at : ∀ (fu j : Nat) (μ : Mem), 108 < j + fu → j ≤ 108 → ∃ μ' : Mem, f_X8_undo_27 fu j μ = ((μ' 120 4), μ') ∧ (∀ z, j ≤ z → z < 108 → μ' 121 z = μ 123 (108 * (μ 120 4).toNatClampNeg + z)) ∧ (∀ z, z < j → μ' 121 z = μ 121 z) ∧ (∀ i, i ≠ 121 → μ' i = μ i) := by
  intro fu
  induction fu with
  | zero => intro j μ h1 h2; omega
  | succ fu ih =>
    intro j μ h1 h2
    unfold f_X8_undo_27
    by_cases h : 108 ≤ j
    · rw [if_pos h]
      exact ⟨_, rfl, fun z a b => by omega, fun z a => rfl, fun i a => rfl⟩
    · rw [if_neg h]
      obtain ⟨μ', a1, a2, a3, a4⟩ := ih (j + 1) (st μ 121 j (μ 123 (108 * (μ 120 4).toNatClampNeg + j))) (by omega) (by omega)
      refine ⟨μ', a1, fun z b1 b2 => ?_, fun z b1 => ?_, fun i b1 => (a4 i b1).trans (st_nei (fun e => b1 e.symm))⟩
      · by_cases hz : z = j
        · rw [hz, a3 j (by omega), st_eq]
        · rw [a2 z (by omega) b2]; rfl
      · rw [a3 z (by omega), st_ne (by omega)]
theorem op_undo {ω μ : Mem} (h : LR ω μ) : OPP ω μ (f_X7_undo ω) (f_X8_undo μ) := by
  refine OPP.th ?_
  have h := h.th
  unfold f_X8_undo f_X7_undo f_X1_takeBack
  generalize st μ 120 0 0 = μ at *
  have t1 := h.2.2.1.2.2.1
  obtain ⟨n, hn, en⟩ := rg_ex h.2.2.1.2.2.2.1
  have hs := h.2.2.1.2.2.2.2
  rw [en, nI_clamp (by omega)] at hs
  rw [t1]
  by_cases q : n = 0
  · have e : μ 120 4 = 0 := by rw [en, q]; rfl
    rw [if_pos e, e]
    exact OPP.same h
  · have a1 : ¬ μ 120 4 = 0 := by
      rw [en]; exact fun e => q ((nI_eq (by omega) (by decide)).1 e)
    have a2 : ¬ μ 120 4 ≤ 0 := by rw [en]; exact nI_ge (a := 0) (by omega) (by omega)
    have a3 : μ 120 4 ≤ 4 := by rw [en]; exact nI_le (b := 4) (by omega) (by decide)
    have e1 : μ 120 4 - 1 = nI (n - 1) := by rw [en]; exact pk_sub (a := n) (b := 1) (by omega)
    rw [if_neg a1, if_neg a2, if_pos a3, e1, if_neg (by decide : ¬ (1 : Int32) = 0)]
    have em : (st ω 52 1 (nI (n - 1))) 52 1 = nI (n - 1) := st_eq
    have e53 : (st ω 52 1 (nI (n - 1))) 53 = ω 53 := st_nei (by decide)
    rw [em, nI_clamp (by omega), e53]
    have hb : isH (hB ω (n - 1)) := h.2.2.1.1 (n - 1) (by omega)
    have hr := isH_rg hb
    obtain ⟨μ', b1, b2, b3, b4⟩ := undo27_at 109 0 (st μ 120 4 (nI (n - 1))) (by decide) (by decide)
    rw [b1]
    have m4 : (st μ 120 4 (nI (n - 1))) 120 4 = nI (n - 1) := st_eq
    have m123 : (st μ 120 4 (nI (n - 1))) 123 = μ 123 := st_nei (by decide)
    rw [m4, nI_clamp (by omega), m123] at b2
    have hf : 1 + 16 ≤ hB ω (n - 1) ∨ hB ω (n - 1) + 16 ≤ 1 := by omega
    have cc : CF 1 (st ω 52 1 (nI (n - 1))) (f_X5_copyFrom 1 (hB ω (n - 1)) (st ω 52 1 (nI (n - 1)))) := CF.copy hf
    have c1 : ∀ z, z ≠ 52 → (z < 1 ∨ 17 ≤ z) → (f_X5_copyFrom 1 (hB ω (n - 1)) (st ω 52 1 (nI (n - 1)))) z = ω z := fun z h1 h2 => (cc z (by omega)).trans (st_nei (fun e => h1 e.symm))
    have c4 : ∀ i, i ≠ 121 → i ≠ 120 → μ' i = μ i := fun i h1 h2 => (b4 i h1).trans (st_nei (fun e => h2 e.symm))
    have c5 : ∀ j, j ≠ 4 → μ' 120 j = μ 120 j := fun j hj => by rw [b4 120 (by decide), st_ne (fun e => hj e.symm)]
    have c6 : μ' 120 4 = nI (n - 1) := by rw [b4 120 (by decide), st_eq]
    have s0 : SX (hB ω (n - 1)) (st ω 52 1 (nI (n - 1))) (fun x => μ 123 (108 * (n - 1) + x)) := (hs (n - 1) (by omega)).congr (fun j hj => st_nei (by omega))
    have s1 : SX 1 (f_X5_copyFrom 1 (hB ω (n - 1)) (st ω 52 1 (nI (n - 1)))) (μ' 121) := (s0.copy hf).cs (fun j hj => b2 j (by omega) hj)
    have e52 : (f_X5_copyFrom 1 (hB ω (n - 1)) (st ω 52 1 (nI (n - 1)))) 52 1 = nI (n - 1) := by rw [cc 52 (by omega), st_eq]
    change OPP ω μ ((f_X5_copyFrom 1 (hB ω (n - 1)) (st ω 52 1 (nI (n - 1)))) 52 1, f_X5_copyFrom 1 (hB ω (n - 1)) (st ω 52 1 (nI (n - 1)))) (μ' 120 4, μ')
    generalize f_X5_copyFrom 1 (hB ω (n - 1)) (st ω 52 1 (nI (n - 1))) = ω' at *
    refine ⟨?_, ?_, fun z hz => c1 z (by omega) (by omega), fun z hz => c4 z (by omega) (by omega)⟩
    · dsimp only
      rw [e52, c6]
    have eh : ∀ j, hB ω' j = hB ω j := fun j => by
      unfold hB
      rw [c1 53 (by decide) (by decide)]
    dsimp only
    refine ⟨s1, ⟨?_, fun q => ?_⟩, ⟨fun j hj => ?_, fun i j hi hj e => ?_, ?_, ?_, fun j hj => ?_⟩, ?_, ?_, fun j hj => ?_⟩
    · rw [c1 0 (by decide) (by decide), c5 6 (by decide)]; exact h.2.1.1
    · rw [c5 6 (by decide)] at q
      rw [c4 124 (by decide) (by decide)]; exact (h.2.1.2 q).congr (fun j hj => c1 _ (by omega) (by omega))
    · rw [eh]; exact h.2.2.1.1 j hj
    · rw [eh, eh] at e; exact h.2.2.1.2.1 i j hi hj e
    · rw [e52, c6]
    · rw [c6]; exact rg_of (by omega) (by omega)
    · rw [c6, nI_clamp (by omega)] at hj
      rw [eh]
      have r := isH_rg (h.2.2.1.1 j (by omega))
      exact ((hs j (by omega)).congr (fun z hz => c1 _ (by omega) (by omega))).cs (fun x _ => by rw [c4 123 (by decide) (by decide)])
    · rw [c1 118 (by decide) (by decide), c5 8 (by decide)]; exact h.2.2.2.1
    · rw [c5 8 (by decide)]; exact h.2.2.2.2.1
    · rw [c5 8 (by decide)] at hj
      rw [c1 119 (by decide) (by decide), c4 125 (by decide) (by decide)]; exact h.2.2.2.2.2 j hj
