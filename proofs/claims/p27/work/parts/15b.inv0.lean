theorem RS_0 : RS 1 w0 ms0 := by
  have z12 : ms0 12 = 0 := rfl
  have z43 : ms0 43 = 0 := rfl
  refine ⟨by decide +kernel, by decide +kernel, by decide +kernel, ⟨rfl, ?_, fun j hj => ?_⟩, ⟨rfl, ?_, fun j hj => ?_⟩, ?_⟩
  · rw [z12]; exact rg_of (j := 0) (by decide) (by decide)
  · rw [z12] at hj; exact absurd hj (Nat.not_lt_zero j)
  · rw [z43]; exact rg_of (j := 0) (by decide) (by decide)
  · rw [z43] at hj; exact absurd hj (Nat.not_lt_zero j)
  · unfold RB; decide +kernel
theorem IV_0 : IV 0 (56 * 0) ms0 := by
  unfold IV IB rg
  decide +kernel
theorem SX_0 : SX 1 w0 ms0 := ⟨0, by decide, RS_0, IV_0⟩
theorem HC_0 : HC w0 0 (fun _ _ => 0) := by
  refine ⟨?_, ?_, rfl, by decide, fun j hj => absurd hj (Nat.not_lt_zero j)⟩
  · unfold isH; decide +kernel
  · intro i j hi hj e
    have h : ∀ k, k < 4 → hB w0 k = 54 + 16 * k := by decide +kernel
    rw [h i hi, h j hj] at e
    omega
theorem hst_0 : hstP w0 := fun j hj => (HC_0.1 j hj).S
theorem JV_0 : JV ms0 := by
  unfold JV
  decide +kernel
theorem undo_0 : f_X7_undo w0 = (-5, w0) := undo_no rfl
theorem restore_0 : f_X7_restore w0 = (-5, w0) := if_pos rfl
theorem keep_0 : INV (f_X7_keep w0).2 ms0 ms0 ∧ HC (f_X7_keep w0).2 0 (fun _ _ => 0) := by
  obtain ⟨a, b, c, d⟩ := keep_sx SX_0
  exact ⟨⟨a, b, JV_0, JV_0, c, by rw [d 118 (by decide)]; rfl⟩, HC_0.congr (fun z h1 h2 => d z (by omega))⟩
