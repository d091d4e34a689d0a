theorem elA {n r j : Nat} {ω : Mem} (h : j < n) (hn : n < 2 ^ 31) : f_X7_elementAt n r (nI j) ω = ω r j := by
  unfold f_X7_elementAt
  rw [if_neg (nI_pos (by omega)), if_neg (nI_ge h hn), nI_clamp (by omega)]
theorem op_entry {ω μ : Mem} {x w : Int32} (h : LW ω μ) : OPW ω μ (f_X7_entry x w ω, ω) (f_X8_entry x w μ) := by
  refine OPW.th ?_
  have h := h.th
  unfold f_X8_entry f_X7_entry f_X8_entry_5
  generalize st μ 120 0 0 = μ at *
  rw [isW_in (μ := μ)]
  by_cases q0 : x < 0
  · rw [if_pos q0, if_pos q0]; exact OPW.same h
  · rw [if_neg q0, if_neg q0]
    by_cases q : f_X8_in w 0 1 μ = 0
    · rw [if_pos q, if_pos q]; exact OPW.same h
    · rw [if_neg q, if_neg q]
      obtain ⟨e2, r43, hp⟩ := h.rs.2.2.2.2.1
      have e2 : ω 9 2 = μ 121 43 := e2
      rw [e2]
      by_cases q1 : μ 121 43 ≤ x
      · rw [if_neg (Int32.not_lt.mpr q1), if_pos q1]; exact OPW.same h
      · have q2 := Int32.not_le.mp q1
        rw [if_pos q2, if_neg q1]
        obtain ⟨ex, lx⟩ := rg_ltn q0 q2 r43 (by decide)
        generalize x.toNatClampNeg = j at *
        subst ex
        have l43 := r43.2
        obtain ⟨i, hi, ei⟩ := rg_ex (in_rg (n := 1) rfl q)
        rcases (show i = 0 ∨ i = 1 by omega) with rfl | rfl
        · subst ei
          rw [if_pos (show nI 0 = 0 from rfl), elA (by omega) (by decide)]
          exact OPW.eq h (hp j lx 0 (by decide))
        · subst ei
          rw [if_neg (show ¬ nI 1 = 0 by decide), elA (by omega) (by decide)]
          exact OPW.eq h (hp j lx 1 (by decide))
theorem op_event {ω μ : Mem} {x w : Int32} (h : LW ω μ) : OPW ω μ (f_X7_event x w ω, ω) (f_X8_event x w μ) := by
  refine OPW.th ?_
  have h := h.th
  unfold f_X8_event f_X7_event f_X8_event_5
  generalize st μ 120 0 0 = μ at *
  rw [isW_in (μ := μ)]
  by_cases q0 : x < 0
  · rw [if_pos q0, if_pos q0]; exact OPW.same h
  · rw [if_neg q0, if_neg q0]
    by_cases q : f_X8_in w 0 2 μ = 0
    · rw [if_pos q, if_pos q]; exact OPW.same h
    · rw [if_neg q, if_neg q]
      obtain ⟨e2, r43, hp⟩ := h.rs.2.2.2.1
      have e2 : ω 12 4 = μ 121 12 := e2
      rw [e2]
      by_cases q1 : μ 121 12 ≤ x
      · rw [if_neg (Int32.not_lt.mpr q1), if_pos q1]; exact OPW.same h
      · have q2 := Int32.not_le.mp q1
        rw [if_pos q2, if_neg q1]
        obtain ⟨ex, lx⟩ := rg_ltn q0 q2 r43 (by decide)
        generalize x.toNatClampNeg = j at *
        subst ex
        have l43 := r43.2
        obtain ⟨i, hi, ei⟩ := rg_ex (in_rg (n := 2) rfl q)
        rcases (show i = 0 ∨ i = 1 ∨ i = 2 by omega) with rfl | rfl | rfl
        · subst ei
          rw [if_pos (show nI 0 = 0 from rfl), elA (by omega) (by decide)]
          exact OPW.eq h (hp j lx 0 (by decide))
        · subst ei
          rw [if_neg (show ¬ nI 1 = 0 by decide), if_pos (show nI 1 = 1 from rfl), elA (by omega) (by decide)]
          exact OPW.eq h (hp j lx 1 (by decide))
        · subst ei
          rw [if_neg (show ¬ nI 2 = 0 by decide), if_neg (show ¬ nI 2 = 1 by decide), elA (by omega) (by decide)]
          exact OPW.eq h (hp j lx 2 (by decide))
theorem vlv_eq {ω μ : Mem} (h : LW ω μ) : f_X5_openValves 1 ω = f_X8_openValves μ := by
  unfold f_X5_openValves
  have o0 : f_X5_isOpen 1 (1 + 4) ω = f_X8_isOpen 0 μ := open_eq (B := 1) (k := 0) h.rs (by decide) (h.ib (by decide))
  have o1 : f_X5_isOpen 1 (1 + 5) ω = f_X8_isOpen 1 μ := open_eq (B := 1) (k := 1) h.rs (by decide) (h.ib (by decide))
  have o2 : f_X5_isOpen 1 (1 + 6) ω = f_X8_isOpen 2 μ := open_eq (B := 1) (k := 2) h.rs (by decide) (h.ib (by decide))
  have o3 : f_X5_isOpen 1 (1 + 7) ω = f_X8_isOpen 3 μ := open_eq (B := 1) (k := 3) h.rs (by decide) (h.ib (by decide))
  rw [o0, o1, o2, o3]
  have st1 : ∀ (fu : Nat) (v : Int32) (j : Nat), j < 4 → f_X8_openValves_4 (fu + 1) v j μ = f_X8_openValves_4 fu (v + f_X7_oneIf (f_X8_isOpen j μ) ω) (j + 1) μ := by
    intro fu v j hj
    conv => lhs; unfold f_X8_openValves_4
    rw [if_neg (by omega)]
    unfold f_X7_oneIf
    by_cases q : f_X8_isOpen j μ = 0
    · rw [if_pos q, if_pos q]
    · rw [if_neg q, if_neg q]
  unfold f_X8_openValves
  rw [st1 _ _ _ (by decide), st1 _ _ _ (by decide), st1 _ _ _ (by decide), st1 _ _ _ (by decide)]
  rfl
theorem cnt_eq {ω μ : Mem} {k : Nat} {w : Int32} (h : LW ω μ) (hk : k < 4) (hw : w - 4 = nI k) (hw2 : (f_X8_in w 4 7 μ) = 1) (hw3 : w.toNatClampNeg = k + 4) : OPW ω μ (f_X7_elementAt 4 16 (w - 4) ω, ω) (if (f_X8_in w 4 7 μ) = 0 then ((-2), μ) else ((μ 121 (8 + w.toNatClampNeg - 4)), μ)) := by
  rw [hw2, if_neg (by decide), hw, elA hk (by decide), hw3]
  exact OPW.eq h ((h.rs.2.2.1 k hk).trans (by rw [show 8 + (k + 4) - 4 = 8 + k by omega]))
theorem op_count {ω μ : Mem} {w : Int32} (h : LW ω μ) (hw13 : ¬ w = 13) : OPW ω μ (f_X7_count w ω, ω) (f_X8_count w μ) := by
  refine OPW.th ?_
  have h := h.th
  unfold f_X8_count
  generalize st μ 120 0 0 = μ at *
  by_cases q0 : w = 0
  · subst q0; exact OPW.eq h h.rs.s4
  by_cases q1 : w = 1
  · subst q1; exact OPW.eq h h.rs.s5
  by_cases q2 : w = 2
  · subst q2
    refine OPW.eq h (r := f_X5_draft 1 ω) (r' := f_X8_draftAt (μ 121 4) μ) ?_
    unfold f_X5_draft
    rw [h.rs.s4]
    exact draft_eq h.rs
  by_cases q3 : w = 3
  · subst q3; exact OPW.eq h h.rs.2.2.2.2.1.1
  by_cases q4 : w = 4
  · subst q4; exact cnt_eq h (k := 0) (w := 4) (by decide) rfl rfl rfl
  by_cases q5 : w = 5
  · subst q5; exact cnt_eq h (k := 1) (w := 5) (by decide) rfl rfl rfl
  by_cases q6 : w = 6
  · subst q6; exact cnt_eq h (k := 2) (w := 6) (by decide) rfl rfl rfl
  by_cases q7 : w = 7
  · subst q7; exact cnt_eq h (k := 3) (w := 7) (by decide) rfl rfl rfl
  by_cases q8 : w = 8
  · subst q8; exact OPW.eq h (fla_eq h)
  by_cases q9 : w = 9
  · subst q9; exact OPW.eq h (vlv_eq h)
  by_cases q10 : w = 10
  · subst q10; exact OPW.eq h (loc_eq h)
  by_cases q11 : w = 11
  · subst q11; exact OPW.eq h h.rs.s6
  by_cases q12 : w = 12
  · subst q12; exact OPW.eq h h.rs.s7
  by_cases q13 : w = 13
  · exact absurd q13 hw13
  by_cases q14 : w = 14
  · subst q14; exact OPW.eq h h.2.2.2.1
  have e1 : f_X7_count w ω = -2 := by
    unfold f_X7_count
    rw [if_neg q0, if_neg q1, if_neg q2, if_neg q3, if_neg q4, if_neg q5, if_neg q6, if_neg q7, if_neg q8, if_neg q9, if_neg q10, if_neg q11, if_neg q12, if_neg q13, if_neg q14]
  have e2 : f_X8_count_5 w μ = (-2, μ) := by
    unfold f_X8_count_5
    rw [if_neg q0, if_neg q1, if_neg q2, if_neg q3, if_neg q4, if_neg q5, if_neg q6, if_neg q7, if_neg q8, if_neg q9, if_neg q10, if_neg q11, if_neg q12, if_neg q13, if_neg q14]
    by_cases q : f_X8_in w 4 7 μ = 0
    · rw [if_pos q]
    · obtain ⟨a, b⟩ := in_rg4 q
      obtain ⟨j, hj, ej⟩ := rg_ex a
      rw [ej, nI_clamp (by omega)] at b
      rcases (show j = 4 ∨ j = 5 ∨ j = 6 ∨ j = 7 by omega) with rfl | rfl | rfl | rfl
      · exact absurd ej q4
      · exact absurd ej q5
      · exact absurd ej q6
      · exact absurd ej q7
  rw [e1, e2]
  exact OPW.same h
theorem op_burner {ω μ : Mem} {k : Nat} {w : Int32} (h : LW ω μ) (hk : k < 4) : OPW ω μ (f_X7_burner k w ω, ω) (f_X8_burner k w μ) := by
  refine OPW.th ?_
  have h := h.th
  unfold f_X8_burner f_X8_burner_5
  generalize st μ 120 0 0 = μ at *
  rw [if_neg (isB_ok hk)]
  by_cases q0 : w = 0
  · subst q0; exact OPW.eq h (h.rs.b0 hk)
  by_cases q1 : w = 1
  · subst q1; exact OPW.eq h (h.rs.b1 hk)
  by_cases q2 : w = 2
  · subst q2; exact OPW.eq h ((one_bb (ω (5 + k) 2) ω).trans (h.rs.b2 hk))
  by_cases q3 : w = 3
  · subst q3; exact OPW.eq h ((one_bb (ω (5 + k) 3) ω).trans (h.rs.b3 hk))
  by_cases q4 : w = 4
  · subst q4; exact OPW.eq h ((one_bb (ω (5 + k) 4) ω).trans (h.rs.b4 hk))
  by_cases q5 : w = 5
  · subst q5; exact OPW.eq h (h.rs.b5 hk)
  by_cases q6 : w = 6
  · subst q6
    have eo : f_X5_isOpen 1 (5 + k) ω = f_X8_isOpen k μ := open_eq (B := 1) h.rs hk (h.ib hk)
    change OPW ω μ (f_X7_oneIf (f_X5_isOpen 1 (5 + k) ω) ω, ω) (if f_X8_isOpen k μ = 0 then (0, μ) else (1, μ))
    rw [eo]
    unfold f_X7_oneIf
    by_cases q : f_X8_isOpen k μ = 0
    · rw [if_pos q, if_pos q]; exact OPW.same h
    · rw [if_neg q, if_neg q]; exact OPW.same h
  by_cases q7 : w = 7
  · subst q7; exact OPW.eq h ((one_bb (ω (5 + k) 6) ω).trans (h.rs.b6 hk))
  by_cases q8 : w = 8
  · subst q8; exact OPW.eq h (h.rs.b7 hk)
  by_cases q9 : w = 9
  · subst q9; exact OPW.eq h (h.rs.b8 hk)
  by_cases q10 : w = 10
  · subst q10; exact OPW.eq h (h.rs.b9 hk)
  by_cases q11 : w = 11
  · subst q11
    have es : f_X0_strength (5 + k) ω = f_X8_strength k μ := strength_eq (B := 1) h.rs hk (h.ib hk)
    exact OPW.eq h es
  have e1 : f_X7_burner k w ω = -2 := by
    unfold f_X7_burner
    rw [if_neg q0, if_neg q1, if_neg q2, if_neg q3, if_neg q4, if_neg q5, if_neg q6, if_neg q7, if_neg q8, if_neg q9, if_neg q10, if_neg q11]
  rw [if_neg q6, if_neg q7, if_neg q8, if_neg q9, if_neg q10, if_neg q11, e1]
  by_cases q : f_X8_in w 0 5 μ = 0
  · rw [if_pos q]; exact OPW.same h
  · obtain ⟨j, hj, ej⟩ := rg_ex (in_rg (n := 5) rfl q)
    rcases (show j = 0 ∨ j = 1 ∨ j = 2 ∨ j = 3 ∨ j = 4 ∨ j = 5 by omega) with rfl | rfl | rfl | rfl | rfl | rfl
    · exact absurd ej q0
    · exact absurd ej q1
    · exact absurd ej q2
    · exact absurd ej q3
    · exact absurd ej q4
    · exact absurd ej q5
