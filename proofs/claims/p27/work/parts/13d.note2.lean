theorem put1 (r : Nat) (v : Int32) (ω : Mem) : (∀ j, (f_X2_putFirst 10 r v ω) r j = if j = 0 then v else if j < 10 then ω r (j - 1) else ω r j) ∧ ∀ i, i ≠ r → (f_X2_putFirst 10 r v ω) i = ω i := by
  unfold f_X2_putFirst
  rw [if_neg (by decide)]
  refine ⟨fun j => ?_, fun i hi => ?_⟩
  · by_cases h : j = 0
    · rw [if_pos h, h, st_eq]
    · rw [if_neg h, st_ne (fun z => h z.symm)]
      have e : va_up ω r (va_cpy (ω r) (ω r) 0 1 (10 - 1)) r = va_cpy (ω r) (ω r) 0 1 9 := if_pos rfl
      rw [e]
      by_cases h2 : j < 10
      · rw [if_pos h2, pk_cpy_in (by omega) (by omega), Nat.zero_add]
      · rw [if_neg h2, pk_cpy_out (by omega)]
  · rw [st_nei (fun z => hi z.symm)]
    exact if_neg hi
theorem isW_ev {ev : Nat} {ω : Mem} (h : ev < 4) : ¬ f_X7_isWithin (nI ev) 0 3 ω = 0 := by
  unfold f_X7_isWithin
  rw [if_neg (nI_pos (by omega)), if_neg]
  · decide
  · exact nI_nlt (a := 3) (b := ev) (by omega) (by decide)
theorem note_cells (i ev : Nat) (bu ti : Int32) (ω : Mem) (hev : ev < 4) :
    (∀ j, (f_X2_note i ev bu ti ω) (i + 1) j = if j = 0 then nI ev else if j < 10 then ω (i + 1) (j - 1) else ω (i + 1) j) ∧
    (∀ j, (f_X2_note i ev bu ti ω) (i + 2) j = if j = 0 then bu else if j < 10 then ω (i + 2) (j - 1) else ω (i + 2) j) ∧
    (∀ j, (f_X2_note i ev bu ti ω) (i + 3) j = if j = 0 then ti else if j < 10 then ω (i + 3) (j - 1) else ω (i + 3) j) ∧
    ((f_X2_note i ev bu ti ω) i 4 = if 10 < ω i 4 + 1 then 10 else ω i 4 + 1) ∧
    (∀ j, (f_X2_note i ev bu ti ω) (i + 4) j = if j = ev then ω (i + 4) ev + 1 else ω (i + 4) j) ∧
    ∀ z, z ≠ i → z ≠ i + 1 → z ≠ i + 2 → z ≠ i + 3 → z ≠ i + 4 → (f_X2_note i ev bu ti ω) z = ω z := by
  unfold f_X2_note
  rw [if_neg (isW_ev hev)]
  obtain ⟨a1, b1⟩ := put1 (i + 1) (nI ev) ω
  obtain ⟨a2, b2⟩ := put1 (i + 2) bu (f_X2_putFirst 10 (i + 1) (nI ev) ω)
  obtain ⟨a3, b3⟩ := put1 (i + 3) ti (f_X2_putFirst 10 (i + 2) bu (f_X2_putFirst 10 (i + 1) (nI ev) ω))
  generalize hP3 : f_X2_putFirst 10 (i + 3) ti (f_X2_putFirst 10 (i + 2) bu (f_X2_putFirst 10 (i + 1) (nI ev) ω)) = P3 at *
  generalize hP2 : f_X2_putFirst 10 (i + 2) bu (f_X2_putFirst 10 (i + 1) (nI ev) ω) = P2 at *
  generalize hP1 : f_X2_putFirst 10 (i + 1) (nI ev) ω = P1 at *
  have e0 : P3 i = ω i := by rw [b3 i (by omega), b2 i (by omega), b1 i (by omega)]
  have e4 : P3 (i + 4) = ω (i + 4) := by rw [b3 _ (by omega), b2 _ (by omega), b1 _ (by omega)]
  rw [e0]
  refine ⟨fun j => ?_, fun j => ?_, fun j => ?_, ?_, fun j => ?_, fun z h0 h1 h2 h3 h4 => ?_⟩
  · rw [st_nei (by omega), st_nei (by omega), b3 _ (by omega), b2 _ (by omega)]; exact a1 j
  · rw [st_nei (by omega), st_nei (by omega), b3 _ (by omega), a2 j, b1 _ (by omega)]
  · rw [st_nei (by omega), st_nei (by omega), a3 j, b2 _ (by omega), b1 _ (by omega)]
  · rw [st_nei (by omega), st_eq]
  · by_cases hj : j = ev
    · rw [if_pos hj, hj, st_eq, st_nei (by omega), e4]
    · rw [if_neg hj, st_ne (fun z => hj z.symm), st_nei (by omega), e4]
  · rw [st_nei (fun z => h4 z.symm), st_nei (fun z => h0 z.symm), b3 z h3, b2 z h2, b1 z h1]
theorem noteS_at {ev : Int32} {e0 : Nat} {b ti : Int32} {s : Nat → Int32} {m : Nat} (hmm : (if (s 12).toNatClampNeg = 10 then 9 else (s 12).toNatClampNeg) = m) (j : Nat) : noteS ev e0 b ti s j = if j = 12 then nI (m + 1) else if j = 8 + e0 then s (8 + e0) + 1 else if 13 + 3 * m ≤ j ∧ j < 13 + 3 * m + 3 then (if j = 13 + 3 * m then ev else if j = 13 + 3 * m + 1 then b else ti) else if (s 12).toNatClampNeg = 10 ∧ 13 ≤ j ∧ j < 40 then s (j + 3) else s j := by
  subst hmm
  rfl
theorem RS.note {B ev : Nat} {ω : Mem} {s : Nat → Int32} {bu ti : Int32} (h : RS B ω s) (hev : ev < 4) : RS B (f_X2_note (B + 11) ev bu ti ω) (noteS (nI ev) ev bu ti s) := by
  obtain ⟨h1, h2, h3, ⟨h4, h5, h6⟩, ⟨h7, h8, h9⟩, h10⟩ := h
  obtain ⟨c1, c2, c3, c0, c4, cz⟩ := note_cells (B + 11) ev bu ti ω hev
  have hn := h5.2
  have hne := h5.1
  have hp := h8.2
  -- the model's numbers
  have k12 : noteS (nI ev) ev bu ti s 12 = nI ((if (s 12).toNatClampNeg = 10 then 9 else (s 12).toNatClampNeg) + 1) := by
    rw [noteS_at rfl, if_pos rfl]
  generalize hmm : (if (s 12).toNatClampNeg = 10 then 9 else (s 12).toNatClampNeg) = m at k12
  have hm : m ≤ 9 := by
    rw [← hmm]
    split <;> omega
  have hm2 : (s 12).toNatClampNeg = 10 ∧ m = 9 ∨ (s 12).toNatClampNeg ≠ 10 ∧ m = (s 12).toNatClampNeg := by
    rw [← hmm]
    by_cases q : (s 12).toNatClampNeg = 10
    · rw [if_pos q]; exact Or.inl ⟨q, rfl⟩
    · rw [if_neg q]; exact Or.inr ⟨q, rfl⟩
  have low : ∀ j, j ≠ 12 → j ≠ 8 + ev → ¬ (13 ≤ j ∧ j < 43) → noteS (nI ev) ev bu ti s j = s j := by
    intro j a1 a2 a3
    rw [noteS_at hmm, if_neg a1, if_neg a2, if_neg (by omega), if_neg (by omega)]
  refine ⟨fun j hj => ?_, fun j hj => ?_, fun j hj => ?_, ⟨?_, ?_, fun j hj i hi => ?_⟩, ⟨?_, ?_, fun j hj i hi => ?_⟩, fun j hj => ?_⟩
  · rw [cz (B + 2) (by omega) (by omega) (by omega) (by omega) (by omega), low j (by omega) (by omega) (by omega)]; exact h1 j hj
  · rw [cz B (by omega) (by omega) (by omega) (by omega) (by omega), low (4 + j) (by omega) (by omega) (by omega)]; exact h2 j hj
  · have q := c4 j
    rw [show B + 11 + 4 = B + 15 by omega] at q
    rw [q]
    by_cases hje : j = ev
    · rw [if_pos hje, hje, h3 ev hev]
      rw [noteS_at hmm, if_neg (by omega), if_pos rfl]
    · rw [if_neg hje, low (8 + j) (by omega) (by omega) (by omega)]; exact h3 j hj
  · rw [c0, k12, h4, hne, nI_1]
    rcases hm2 with ⟨q1, q2⟩ | ⟨q1, q2⟩
    · rw [q1, q2]; decide
    · rw [← q2]
      exact if_neg (nI_nlt (a := 10) (b := m + 1) (by omega) (by decide))
  · rw [k12]
    exact rg_of (by omega) (by decide)
  · rw [k12, nI_clamp (by omega)] at hj ⊢
    have row : (f_X2_note (B + 11) ev bu ti ω) (B + 12 + i) j = if j = 0 then (if i = 0 then nI ev else if i = 1 then bu else ti) else if j < 10 then ω (B + 12 + i) (j - 1) else ω (B + 12 + i) j := by
      rcases (show i = 0 ∨ i = 1 ∨ i = 2 by omega) with rfl | rfl | rfl
      · exact c1 j
      · exact c2 j
      · exact c3 j
    rw [row]
    by_cases hj0 : j = 0
    · rw [if_pos hj0, hj0]
      rcases (show i = 0 ∨ i = 1 ∨ i = 2 by omega) with rfl | rfl | rfl
      · show nI ev = _
        rw [noteS_at hmm, if_neg (by omega), if_neg (by omega), if_pos (by omega), if_pos (by omega)]
      · show bu = _
        rw [noteS_at hmm, if_neg (by omega), if_neg (by omega), if_pos (by omega), if_neg (by omega), if_pos (by omega)]
      · show ti = _
        rw [noteS_at hmm, if_neg (by omega), if_neg (by omega), if_pos (by omega), if_neg (by omega), if_neg (by omega)]
    · rw [if_neg hj0, if_pos (by omega), h6 (j - 1) (by omega) i hi]
      rw [noteS_at hmm, if_neg (by omega), if_neg (by omega), if_neg (by omega)]
      rcases hm2 with ⟨q1, q2⟩ | ⟨q1, q2⟩
      · rw [if_pos (by omega)]
        congr 1
        omega
      · rw [if_neg (by omega)]
        congr 1
        omega
  · rw [cz (B + 8) (by omega) (by omega) (by omega) (by omega) (by omega), low 43 (by omega) (by omega) (by omega)]; exact h7
  · rw [low 43 (by omega) (by omega) (by omega)]; exact h8
  · rw [low 43 (by omega) (by omega) (by omega)] at hj
    rw [cz (B + 9 + i) (by omega) (by omega) (by omega) (by omega) (by omega), low (44 + 2 * j + i) (by omega) (by omega) (by omega)]; exact h9 j hj i hi
  · intro w hw
    rw [cz (B + 4 + j) (by omega) (by omega) (by omega) (by omega) (by omega), low (68 + 10 * j + w) (by omega) (by omega) (by omega)]; exact h10 j hj w hw
theorem noteS_low {ev : Int32} {e0 : Nat} {b ti : Int32} {s : Nat → Int32} {j : Nat} (he : e0 < 4) (hn : rg (s 12) 10) (h : j < 8 ∨ 43 ≤ j) : noteS ev e0 b ti s j = s j := by
  have := hn.2
  rw [noteS_at rfl, if_neg (by omega), if_neg (by omega), if_neg (by split <;> omega), if_neg (by omega)]
