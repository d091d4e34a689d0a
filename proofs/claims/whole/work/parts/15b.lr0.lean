theorem RS_0 : RS 1 w0 ms0 := by
  have z12 : ms0 12 = 0 := rfl
  have z43 : ms0 43 = 0 := rfl
  refine ⟨by decide +kernel, by decide +kernel, by decide +kernel, ⟨rfl, ?_, fun j hj => ?_⟩, ⟨rfl, ?_, fun j hj => ?_⟩, ?_⟩
  · rw [z12]; exact rg_of (j := 0) (by decide) (by decide)
  · rw [z12] at hj; exact absurd hj (Nat.not_lt_zero j)
  · rw [z43]; exact rg_of (j := 0) (by decide) (by decide)
  · rw [z43] at hj; exact absurd hj (Nat.not_lt_zero j)
  · unfold RB; decide +kernel
theorem IV_0 : IV 0 (56 * 0) ms0 := by
  unfold IV IB rg
  decide +kernel
theorem LR_0 : LR w0 w0 := by
  refine ⟨⟨0, by decide, RS_0, IV_0⟩, ⟨rfl, fun q => absurd rfl q⟩, ⟨?_, ?_, rfl, ?_, fun j hj => ?_⟩, rfl, ?_, fun j hj => ?_⟩
  · unfold isH; decide +kernel
  · intro i j hi hj e
    have h : ∀ k, k < 4 → hB w0 k = 54 + 16 * k := by decide +kernel
    rw [h i hi, h j hj] at e
    omega
  · exact rg_of (j := 0) (by decide) (by decide)
  · exact absurd hj (Nat.not_lt_zero j)
  · exact rg_of (j := 0) (by decide) (by decide)
  · exact absurd hj (Nat.not_lt_zero j)
