theorem copyRow_at {n u r t : Nat} {ω : Mem} : (∀ j, j < n → j < u → (f_X7_copyRow n u r t ω) t j = ω r j) ∧ ∀ z, z ≠ t → (f_X7_copyRow n u r t ω) z = ω z := by
  unfold f_X7_copyRow
  refine ⟨fun j h1 h2 => ?_, fun z hz => if_neg hz⟩
  have e : ∀ (f : Nat → Int32), va_up ω t f t = f := fun f => if_pos rfl
  rw [e, pk_cpy_in (by omega) (by omega), Nat.zero_add, Nat.sub_zero]
theorem bcopy {b k : Nat} {ω : Mem} (h : b ≠ k) : (∀ w, w < 10 → cv w ((f_X0_copyFrom b k ω) b w) = cv w (ω k w)) ∧ ∀ z, z ≠ b → (f_X0_copyFrom b k ω) z = ω z := by
  unfold f_X0_copyFrom f_X0_copyFrom_16 f_X0_copyFrom_32 f_X0_copyFrom_48 f_X0_copyFrom_64
  have n := fun (m : Mem) (a : Nat) (v : Int32) => (st_nei (ω := m) (i := b) (k := a) (i2 := k) (v := v) h)
  simp only [n]
  refine ⟨fun w hw => ?_, fun z hz => ?_⟩
  · have e : ∀ (m : Mem) (a j : Nat) (v : Int32), a ≠ j → st m b a v b j = m b j := fun m a j v q => st_ne q
    rcases (show w = 0 ∨ w = 1 ∨ w = 2 ∨ w = 3 ∨ w = 4 ∨ w = 5 ∨ w = 6 ∨ w = 7 ∨ w = 8 ∨ w = 9 by omega) with rfl | rfl | rfl | rfl | rfl | rfl | rfl | rfl | rfl | rfl
    · rw [e _ _ _ _ (by decide), e _ _ _ _ (by decide), e _ _ _ _ (by decide), e _ _ _ _ (by decide), e _ _ _ _ (by decide), e _ _ _ _ (by decide), e _ _ _ _ (by decide), e _ _ _ _ (by decide), e _ _ _ _ (by decide), st_eq]
    · rw [e _ _ _ _ (by decide), e _ _ _ _ (by decide), e _ _ _ _ (by decide), e _ _ _ _ (by decide), e _ _ _ _ (by decide), e _ _ _ _ (by decide), e _ _ _ _ (by decide), e _ _ _ _ (by decide), st_eq]
    · rw [e _ _ _ _ (by decide), e _ _ _ _ (by decide), e _ _ _ _ (by decide), e _ _ _ _ (by decide), e _ _ _ _ (by decide), e _ _ _ _ (by decide), e _ _ _ _ (by decide), st_eq]
      exact bb_bb _
    · rw [e _ _ _ _ (by decide), e _ _ _ _ (by decide), e _ _ _ _ (by decide), e _ _ _ _ (by decide), e _ _ _ _ (by decide), e _ _ _ _ (by decide), st_eq]
      exact bb_bb _
    · rw [e _ _ _ _ (by decide), e _ _ _ _ (by decide), e _ _ _ _ (by decide), e _ _ _ _ (by decide), e _ _ _ _ (by decide), st_eq]
      exact bb_bb _
    · rw [e _ _ _ _ (by decide), e _ _ _ _ (by decide), e _ _ _ _ (by decide), e _ _ _ _ (by decide), st_eq]
    · rw [e _ _ _ _ (by decide), e _ _ _ _ (by decide), e _ _ _ _ (by decide), st_eq]
      exact bb_bb _
    · rw [e _ _ _ _ (by decide), e _ _ _ _ (by decide), st_eq]
    · rw [e _ _ _ _ (by decide), st_eq]
    · rw [st_eq]
  · have e : ∀ (m : Mem) (a : Nat) (v : Int32), st m b a v z = m z := fun m a v => st_nei (fun q => hz q.symm)
    simp only [e]
theorem isS_far {B k : Nat} (hB : isS B) (hk : isS k) (h : B ≠ k) : B + 16 ≤ k ∨ k + 16 ≤ B := by
  rcases hB with rfl | rfl | rfl | rfl | rfl | rfl | rfl <;> rcases hk with rfl | rfl | rfl | rfl | rfl | rfl | rfl <;> first | omega | exact absurd rfl h
/-- what copyFrom leaves in the sixteen cells -/
theorem scopy {B k : Nat} {ω : Mem} (hf : B + 16 ≤ k ∨ k + 16 ≤ B) : (∀ j, j < 4 → (f_X5_copyFrom B k ω) (B + 2) j = ω (k + 2) j) ∧ (∀ j, j < 4 → (f_X5_copyFrom B k ω) B (4 + j) = ω k (4 + j)) ∧ (∀ j, j < 4 → (f_X5_copyFrom B k ω) (B + 15) j = ω (k + 15) j) ∧ ((f_X5_copyFrom B k ω) (B + 11) 4 = ω (k + 11) 4 ∧ ∀ i, i < 3 → ∀ j, j < 10 → (f_X5_copyFrom B k ω) (B + 12 + i) j = ω (k + 12 + i) j) ∧ ((f_X5_copyFrom B k ω) (B + 8) 2 = ω (k + 8) 2 ∧ ∀ i, i < 2 → ∀ j, j < 12 → (f_X5_copyFrom B k ω) (B + 9 + i) j = ω (k + 9 + i) j) ∧ (∀ j, j < 4 → ∀ w, w < 10 → cv w ((f_X5_copyFrom B k ω) (B + 4 + j) w) = cv w (ω (k + 4 + j) w)) ∧ CF B ω (f_X5_copyFrom B k ω) := by
  unfold f_X5_copyFrom f_X5_copyFrom_74 f_X5_copyFrom_90
  -- the last four fields
  have tail : ∀ m : Mem, (∀ z, z ≠ B → (st (st (st (st m B 4 (m k 4)) B 5 ((st m B 4 (m k 4)) k 5)) B 6 ((st (st m B 4 (m k 4)) B 5 ((st m B 4 (m k 4)) k 5)) k 6)) B 7 ((st (st (st m B 4 (m k 4)) B 5 ((st m B 4 (m k 4)) k 5)) B 6 ((st (st m B 4 (m k 4)) B 5 ((st m B 4 (m k 4)) k 5)) k 6)) k 7)) z = m z) ∧ ∀ j, j < 4 → (st (st (st (st m B 4 (m k 4)) B 5 ((st m B 4 (m k 4)) k 5)) B 6 ((st (st m B 4 (m k 4)) B 5 ((st m B 4 (m k 4)) k 5)) k 6)) B 7 ((st (st (st m B 4 (m k 4)) B 5 ((st m B 4 (m k 4)) k 5)) B 6 ((st (st m B 4 (m k 4)) B 5 ((st m B 4 (m k 4)) k 5)) k 6)) k 7)) B (4 + j) = m k (4 + j) := by
    intro m
    have hBk : B ≠ k := by omega
    have n := fun (m : Mem) (a : Nat) (v : Int32) => (st_nei (ω := m) (i := B) (k := a) (i2 := k) (v := v) hBk)
    simp only [n]
    refine ⟨fun z hz => ?_, fun j hj => ?_⟩
    · rw [st_nei (fun q => hz q.symm), st_nei (fun q => hz q.symm), st_nei (fun q => hz q.symm), st_nei (fun q => hz q.symm)]
    · rcases (show j = 0 ∨ j = 1 ∨ j = 2 ∨ j = 3 by omega) with rfl | rfl | rfl | rfl
      · rw [st_ne (by decide), st_ne (by decide), st_ne (by decide), st_eq]
      · rw [st_ne (by decide), st_ne (by decide), st_eq]
      · rw [st_ne (by decide), st_eq]
      · rw [st_eq]
  obtain ⟨t1, t2⟩ := tail (f_X2_copyFrom (B + 11) (k + 11) (f_X3_copyFrom (B + 8) (k + 8) (f_X0_copyFrom (B + 7) (k + 7) (f_X0_copyFrom (B + 6) (k + 6) (f_X0_copyFrom (B + 5) (k + 5) (f_X0_copyFrom (B + 4) (k + 4) (f_X4_copyFrom (B + 1) (k + 1) ω)))))))
  -- step by step
  have a1 := copyRow_at (n := 4) (u := 4) (r := k + 1 + 1) (t := B + 1 + 1) (ω := ω)
  have u1 : f_X4_copyFrom (B + 1) (k + 1) ω = f_X7_copyRow 4 4 (k + 1 + 1) (B + 1 + 1) ω := rfl
  rw [← u1] at a1
  generalize f_X4_copyFrom (B + 1) (k + 1) ω = m1 at *
  have a2 := bcopy (b := B + 4) (k := k + 4) (ω := m1) (by omega)
  generalize f_X0_copyFrom (B + 4) (k + 4) m1 = m2 at *
  have a3 := bcopy (b := B + 5) (k := k + 5) (ω := m2) (by omega)
  generalize f_X0_copyFrom (B + 5) (k + 5) m2 = m3 at *
  have a4 := bcopy (b := B + 6) (k := k + 6) (ω := m3) (by omega)
  generalize f_X0_copyFrom (B + 6) (k + 6) m3 = m4 at *
  have a5 := bcopy (b := B + 7) (k := k + 7) (ω := m4) (by omega)
  generalize f_X0_copyFrom (B + 7) (k + 7) m4 = m5 at *
  have b1 := copyRow_at (n := 12) (u := 12) (r := k + 8 + 1) (t := B + 8 + 1) (ω := m5)
  have b2 := copyRow_at (n := 12) (u := 12) (r := k + 8 + 2) (t := B + 8 + 2) (ω := f_X7_copyRow 12 12 (k + 8 + 1) (B + 8 + 1) m5)
  have u2 : f_X3_copyFrom (B + 8) (k + 8) m5 = st (f_X7_copyRow 12 12 (k + 8 + 2) (B + 8 + 2) (f_X7_copyRow 12 12 (k + 8 + 1) (B + 8 + 1) m5)) (B + 8) 2 ((f_X7_copyRow 12 12 (k + 8 + 2) (B + 8 + 2) (f_X7_copyRow 12 12 (k + 8 + 1) (B + 8 + 1) m5)) (k + 8) 2) := rfl
  rw [u2] at t1 t2 ⊢
  generalize f_X7_copyRow 12 12 (k + 8 + 1) (B + 8 + 1) m5 = m6 at *
  generalize f_X7_copyRow 12 12 (k + 8 + 2) (B + 8 + 2) m6 = m7 at *
  have s8 : ∀ z, z ≠ B + 8 → (st m7 (B + 8) 2 (m7 (k + 8) 2)) z = m7 z := fun z hz => st_nei (fun q => hz q.symm)
  have s8' : (st m7 (B + 8) 2 (m7 (k + 8) 2)) (B + 8) 2 = m7 (k + 8) 2 := st_eq
  generalize st m7 (B + 8) 2 (m7 (k + 8) 2) = m8 at *
  have c1 := copyRow_at (n := 10) (u := 10) (r := k + 11 + 1) (t := B + 11 + 1) (ω := m8)
  have c2 := copyRow_at (n := 10) (u := 10) (r := k + 11 + 2) (t := B + 11 + 2) (ω := f_X7_copyRow 10 10 (k + 11 + 1) (B + 11 + 1) m8)
  have c3 := copyRow_at (n := 10) (u := 10) (r := k + 11 + 3) (t := B + 11 + 3) (ω := f_X7_copyRow 10 10 (k + 11 + 2) (B + 11 + 2) (f_X7_copyRow 10 10 (k + 11 + 1) (B + 11 + 1) m8))
  have c4 := copyRow_at (n := 4) (u := 4) (r := k + 11 + 4) (t := B + 11 + 4) (ω := f_X7_copyRow 10 10 (k + 11 + 3) (B + 11 + 3) (f_X7_copyRow 10 10 (k + 11 + 2) (B + 11 + 2) (f_X7_copyRow 10 10 (k + 11 + 1) (B + 11 + 1) m8)))
  have u3 : f_X2_copyFrom (B + 11) (k + 11) m8 = st (f_X7_copyRow 4 4 (k + 11 + 4) (B + 11 + 4) (f_X7_copyRow 10 10 (k + 11 + 3) (B + 11 + 3) (f_X7_copyRow 10 10 (k + 11 + 2) (B + 11 + 2) (f_X7_copyRow 10 10 (k + 11 + 1) (B + 11 + 1) m8)))) (B + 11) 4 ((f_X7_copyRow 4 4 (k + 11 + 4) (B + 11 + 4) (f_X7_copyRow 10 10 (k + 11 + 3) (B + 11 + 3) (f_X7_copyRow 10 10 (k + 11 + 2) (B + 11 + 2) (f_X7_copyRow 10 10 (k + 11 + 1) (B + 11 + 1) m8)))) (k + 11) 4) := rfl
  rw [u3] at t1 t2 ⊢
  generalize f_X7_copyRow 10 10 (k + 11 + 1) (B + 11 + 1) m8 = m9 at *
  generalize f_X7_copyRow 10 10 (k + 11 + 2) (B + 11 + 2) m9 = m10 at *
  generalize f_X7_copyRow 10 10 (k + 11 + 3) (B + 11 + 3) m10 = m11 at *
  generalize f_X7_copyRow 4 4 (k + 11 + 4) (B + 11 + 4) m11 = m12 at *
  have s11 : ∀ z, z ≠ B + 11 → (st m12 (B + 11) 4 (m12 (k + 11) 4)) z = m12 z := fun z hz => st_nei (fun q => hz q.symm)
  have s11' : (st m12 (B + 11) 4 (m12 (k + 11) 4)) (B + 11) 4 = m12 (k + 11) 4 := st_eq
  generalize st m12 (B + 11) 4 (m12 (k + 11) 4) = m13 at *
  -- what a cell is through all of it
  have thr : ∀ z, (z < B ∨ B + 16 ≤ z ∨ z = B ∨ z = B + 1 ∨ z = B + 3) → m13 z = ω z ∧ m12 z = ω z ∧ m7 z = ω z ∧ m8 z = ω z ∧ m9 z = ω z ∧ m10 z = ω z ∧ m11 z = ω z ∧ m1 z = ω z ∧ m2 z = ω z ∧ m3 z = ω z ∧ m4 z = ω z ∧ m5 z = ω z ∧ m6 z = ω z := by
    intro z hz
    have q1 : m1 z = ω z := a1.2 z (by omega)
    have q2 : m2 z = ω z := (a2.2 z (by omega)).trans q1
    have q3 : m3 z = ω z := (a3.2 z (by omega)).trans q2
    have q4 : m4 z = ω z := (a4.2 z (by omega)).trans q3
    have q5 : m5 z = ω z := (a5.2 z (by omega)).trans q4
    have q6 : m6 z = ω z := (b1.2 z (by omega)).trans q5
    have q7 : m7 z = ω z := (b2.2 z (by omega)).trans q6
    have q8 : m8 z = ω z := (s8 z (by omega)).trans q7
    have q9 : m9 z = ω z := (c1.2 z (by omega)).trans q8
    have q10 : m10 z = ω z := (c2.2 z (by omega)).trans q9
    have q11 : m11 z = ω z := (c3.2 z (by omega)).trans q10
    have q12 : m12 z = ω z := (c4.2 z (by omega)).trans q11
    exact ⟨(s11 z (by omega)).trans q12, q12, q7, q8, q9, q10, q11, q1, q2, q3, q4, q5, q6⟩
  have src : ∀ j, j < 16 → k + j < B ∨ B + 16 ≤ k + j := fun j hj => by omega
  have T := fun j (hj : j < 16) => thr (k + j) (by have := src j hj; omega)
  refine ⟨fun j hj => ?_, fun j hj => ?_, fun j hj => ?_, ⟨?_, fun i hi j hj => ?_⟩, ⟨?_, fun i hi j hj => ?_⟩, fun j hj w hw => ?_, fun z hz => ?_⟩
  · rw [t1 _ (by omega), s11 _ (by omega), c4.2 _ (by omega), c3.2 _ (by omega), c2.2 _ (by omega), c1.2 _ (by omega), s8 _ (by omega), b2.2 _ (by omega), b1.2 _ (by omega), a5.2 _ (by omega), a4.2 _ (by omega), a3.2 _ (by omega), a2.2 _ (by omega)]
    exact a1.1 j hj hj
  · rw [t2 j hj]
    have := (T 0 (by decide)).1
    rw [Nat.add_zero] at this
    rw [this]
  · rw [t1 _ (by omega), s11 _ (by omega)]
    have := c4.1 j hj hj
    rw [show B + 11 + 4 = B + 15 by omega, show k + 11 + 4 = k + 15 by omega] at this
    rw [this, (T 15 (by decide)).2.2.2.2.2.2.1]
  · rw [t1 _ (by omega), s11', (T 11 (by decide)).2.1]
  · rw [t1 _ (by omega), s11 _ (by omega)]
    rcases (show i = 0 ∨ i = 1 ∨ i = 2 by omega) with rfl | rfl | rfl
    · rw [c4.2 _ (by omega), c3.2 _ (by omega), c2.2 _ (by omega)]
      exact (c1.1 j hj hj).trans (congrFun (T 12 (by decide)).2.2.2.1 j)
    · rw [c4.2 _ (by omega), c3.2 _ (by omega)]
      exact (c2.1 j hj hj).trans (congrFun (T 13 (by decide)).2.2.2.2.1 j)
    · rw [c4.2 _ (by omega)]
      exact (c3.1 j hj hj).trans (congrFun (T 14 (by decide)).2.2.2.2.2.1 j)
  · rw [t1 _ (by omega), s11 _ (by omega), c4.2 _ (by omega), c3.2 _ (by omega), c2.2 _ (by omega), c1.2 _ (by omega), s8', (T 8 (by decide)).2.2.1]
  · rw [t1 _ (by omega), s11 _ (by omega), c4.2 _ (by omega), c3.2 _ (by omega), c2.2 _ (by omega), c1.2 _ (by omega), s8 _ (by omega)]
    rcases (show i = 0 ∨ i = 1 by omega) with rfl | rfl
    · rw [b2.2 _ (by omega)]
      exact (b1.1 j hj hj).trans (congrFun (T 9 (by decide)).2.2.2.2.2.2.2.2.2.2.2.1 j)
    · exact (b2.1 j hj hj).trans (congrFun (T 10 (by decide)).2.2.2.2.2.2.2.2.2.2.2.2 j)
  · rw [t1 _ (by omega), s11 _ (by omega), c4.2 _ (by omega), c3.2 _ (by omega), c2.2 _ (by omega), c1.2 _ (by omega), s8 _ (by omega), b2.2 _ (by omega), b1.2 _ (by omega)]
    rcases (show j = 0 ∨ j = 1 ∨ j = 2 ∨ j = 3 by omega) with rfl | rfl | rfl | rfl
    · rw [a5.2 _ (by omega), a4.2 _ (by omega), a3.2 _ (by omega)]
      exact (a2.1 w hw).trans (congrArg (cv w) (congrFun (T 4 (by decide)).2.2.2.2.2.2.2.1 w))
    · rw [a5.2 _ (by omega), a4.2 _ (by omega)]
      exact (a3.1 w hw).trans (congrArg (cv w) (congrFun (T 5 (by decide)).2.2.2.2.2.2.2.2.1 w))
    · rw [a5.2 _ (by omega)]
      exact (a4.1 w hw).trans (congrArg (cv w) (congrFun (T 6 (by decide)).2.2.2.2.2.2.2.2.2.1 w))
    · exact (a5.1 w hw).trans (congrArg (cv w) (congrFun (T 7 (by decide)).2.2.2.2.2.2.2.2.2.2.1 w))
  · exact (t1 z (by omega)).trans (thr z (by omega)).1
theorem RS.copy {B k : Nat} {ω : Mem} {s : Nat → Int32} (h : RS k ω s) (hf : B + 16 ≤ k ∨ k + 16 ≤ B) : RS B (f_X5_copyFrom B k ω) s := by
  obtain ⟨h1, h2, h3, ⟨h4, h5, h6⟩, ⟨h7, h8, h9⟩, h10⟩ := h
  obtain ⟨c1, c2, c3, ⟨c4, c6⟩, ⟨c7, c9⟩, c10, -⟩ := scopy (ω := ω) hf
  have := h5.2
  have := h8.2
  exact ⟨fun j hj => (c1 j hj).trans (h1 j hj), fun j hj => (c2 j hj).trans (h2 j hj), fun j hj => (c3 j hj).trans (h3 j hj), ⟨c4.trans h4, h5, fun j hj i hi => (c6 i hi j (by omega)).trans (h6 j hj i hi)⟩, ⟨c7.trans h7, h8, fun j hj i hi => (c9 i hi j (by omega)).trans (h9 j hj i hi)⟩, fun j hj w hw => (c10 j hj w hw).trans (h10 j hj w hw)⟩
