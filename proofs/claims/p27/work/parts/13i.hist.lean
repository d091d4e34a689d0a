/-- a state of the class and a row of the model, at a tick in range -/
def SX (B : Nat) (ω : Mem) (s : Nat → Int32) : Prop := ∃ t, t ≤ 99999 ∧ RS B ω s ∧ IV t (56 * t) s
def hB (ω : Mem) (j : Nat) : Nat := (ω 53 j).toNatClampNeg
def isH (B : Nat) : Prop := B = 54 ∨ B = 70 ∨ B = 86 ∨ B = 102
theorem isH.S {B : Nat} (h : isH B) : isS B := by rcases h with rfl | rfl | rfl | rfl <;> (unfold isS; omega)
def HR (ω μ : Mem) : Prop := (∀ j, j < 4 → isH (hB ω j)) ∧ (∀ i j, i < 4 → j < 4 → hB ω i = hB ω j → i = j) ∧ ω 52 1 = μ 120 4 ∧ rg (μ 120 4) 4 ∧ ∀ j, j < (μ 120 4).toNatClampNeg → SX (hB ω j) ω (fun x => μ 123 (108 * j + x))
theorem RS.cs {B : Nat} {ω : Mem} {s s' : Nat → Int32} (h : RS B ω s) (hc : ∀ j, j < 108 → s' j = s j) : RS B ω s' := by
  obtain ⟨h1, h2, h3, ⟨h4, h5, h6⟩, ⟨h7, h8, h9⟩, h10⟩ := h
  have n1 := h5.2
  have n2 := h8.2
  refine ⟨fun j hj => ?_, fun j hj => ?_, fun j hj => ?_, ⟨?_, ?_, fun j hj i hi => ?_⟩, ⟨?_, ?_, fun j hj i hi => ?_⟩, fun j hj w hw => ?_⟩
  · rw [hc j (by omega)]; exact h1 j hj
  · rw [hc _ (by omega)]; exact h2 j hj
  · rw [hc _ (by omega)]; exact h3 j hj
  · rw [hc _ (by omega)]; exact h4
  · rw [hc _ (by omega)]; exact h5
  · rw [hc 12 (by omega)] at hj ⊢
    rw [hc _ (by omega)]; exact h6 j hj i hi
  · rw [hc _ (by omega)]; exact h7
  · rw [hc _ (by omega)]; exact h8
  · rw [hc 43 (by omega)] at hj
    rw [hc _ (by omega)]; exact h9 j hj i hi
  · rw [hc _ (by omega)]; exact h10 j hj w hw
theorem IV.cs {t g : Nat} {s s' : Nat → Int32} (h : IV t g s) (hc : ∀ j, j < 108 → s' j = s j) : IV t g s' := by
  obtain ⟨i0, i2, ⟨i4, i5⟩, i7, ⟨ip, i43⟩, ib⟩ := h
  unfold IV
  rw [hc 0 (by decide), hc 2 (by decide), hc 4 (by decide), hc 5 (by decide), hc 7 (by decide), hc 43 (by decide)]
  refine ⟨i0, i2, ⟨i4, i5⟩, i7, ⟨ip, fun j hj => ?_⟩, fun j hj => ?_⟩
  · rw [hc _ (by omega)]; exact i43 j hj
  · unfold IB
    rw [hc _ (by omega), hc _ (by omega), hc _ (by omega), hc _ (by omega)]; exact ib j hj
theorem SX.cs {B : Nat} {ω : Mem} {s s' : Nat → Int32} (h : SX B ω s) (hc : ∀ j, j < 108 → s' j = s j) : SX B ω s' := by
  obtain ⟨t, h1, h2, h3⟩ := h
  exact ⟨t, h1, h2.cs hc, h3.cs hc⟩
theorem SX.congr {B : Nat} {ω ω' : Mem} {s : Nat → Int32} (h : SX B ω s) (hc : ∀ j, j < 16 → ω' (B + j) = ω (B + j)) : SX B ω' s := by
  obtain ⟨t, h1, h2, h3⟩ := h
  exact ⟨t, h1, h2.congr hc, h3⟩
theorem SX.copy {B k : Nat} {ω : Mem} {s : Nat → Int32} (h : SX k ω s) (hf : B + 16 ≤ k ∨ k + 16 ≤ B) : SX B (f_X5_copyFrom B k ω) s := by
  obtain ⟨t, h1, h2, h3⟩ := h
  exact ⟨t, h1, h2.copy hf, h3⟩
theorem CF.copy {B k : Nat} {ω : Mem} (hf : B + 16 ≤ k ∨ k + 16 ≤ B) : CF B ω (f_X5_copyFrom B k ω) := (scopy hf).2.2.2.2.2.2
-- the model's row of states
theorem rec50_at : ∀ (fu j : Nat) (μ : Mem), 108 < j + fu → j ≤ 108 → rg (μ 120 4) 3 → (∀ z, (f_X8_records_50 fu j μ) 123 z = if 108 * (μ 120 4).toNatClampNeg + j ≤ z ∧ z < 108 * (μ 120 4).toNatClampNeg + 108 then μ 121 (z - 108 * (μ 120 4).toNatClampNeg) else μ 123 z) ∧ (f_X8_records_50 fu j μ) 120 4 = μ 120 4 + 1 := by
  intro fu
  induction fu with
  | zero => intro j μ h1 h2 h3; omega
  | succ fu ih =>
    intro j μ h1 h2 h3
    unfold f_X8_records_50
    by_cases h : 108 ≤ j
    · rw [if_pos h]
      refine ⟨fun z => ?_, st_eq⟩
      rw [st_nei (by decide), if_neg (by omega)]
    · rw [if_neg h]
      obtain ⟨a, b⟩ := ih (j + 1) (st μ 123 (108 * (μ 120 4).toNatClampNeg + j) (μ 121 j)) (by omega) (by omega) h3
      refine ⟨fun z => ?_, b⟩
      rw [a z]
      have e : (st μ 123 (108 * (μ 120 4).toNatClampNeg + j) (μ 121 j)) 120 4 = μ 120 4 := rfl
      have e1 : (st μ 123 (108 * (μ 120 4).toNatClampNeg + j) (μ 121 j)) 121 = μ 121 := rfl
      rw [e, e1]
      by_cases hz : z = 108 * (μ 120 4).toNatClampNeg + j
      · rw [if_neg (by omega), if_pos (by omega), hz, st_eq]
        congr 1
        omega
      · rw [st_ne (fun q => hz q.symm)]
        by_cases hr : 108 * (μ 120 4).toNatClampNeg + (j + 1) ≤ z ∧ z < 108 * (μ 120 4).toNatClampNeg + 108
        · rw [if_pos hr, if_pos (by omega)]
        · rw [if_neg hr, if_neg (by omega)]
theorem rec10_at : ∀ (fu j : Nat) (μ : Mem), 324 < j + fu → j ≤ 324 → ∃ μ' : Mem, f_X8_records_10 fu j μ = f_X8_records_50 109 0 (st μ' 120 4 (μ' 120 4 - 1)) ∧ (∀ z, μ' 123 z = if j ≤ z ∧ z < 324 then μ 123 (z + 108) else μ 123 z) ∧ ∀ i, i ≠ 123 → μ' i = μ i := by
  intro fu
  induction fu with
  | zero => intro j μ h1 h2; omega
  | succ fu ih =>
    intro j μ h1 h2
    unfold f_X8_records_10
    by_cases h : 324 ≤ j
    · rw [if_pos h]
      exact ⟨μ, rfl, fun z => by rw [if_neg (by omega)], fun _ _ => rfl⟩
    · rw [if_neg h]
      obtain ⟨μ', e, a, b⟩ := ih (j + 1) (st μ 123 j (μ 123 (j + 108))) (by omega) (by omega)
      refine ⟨μ', e, fun z => ?_, fun i hi => (b i hi).trans (st_nei (fun q => hi q.symm))⟩
      rw [a z]
      by_cases hz : z = j
      · rw [if_neg (by omega), if_pos (by omega), hz, st_eq]
      · by_cases hr : j + 1 ≤ z ∧ z < 324
        · rw [if_pos hr, if_pos (by omega), st_ne (by omega)]
        · rw [if_neg hr, if_neg (by omega), st_ne (by omega)]
theorem records_at (μ : Mem) (h : rg (μ 120 4) 4) : ∃ n, n ≤ 3 ∧ ((μ 120 4).toNatClampNeg = 4 ∧ n = 3 ∨ (μ 120 4).toNatClampNeg ≠ 4 ∧ n = (μ 120 4).toNatClampNeg) ∧ (f_X8_records μ) 120 4 = nI (n + 1) ∧ (∀ x, x < 108 → (f_X8_records μ) 123 (108 * n + x) = μ 121 x) ∧ ∀ j x, j < n → x < 108 → (f_X8_records μ) 123 (108 * j + x) = if (μ 120 4).toNatClampNeg = 4 then μ 123 (108 * (j + 1) + x) else μ 123 (108 * j + x) := by
  have h4 := h.2
  unfold f_X8_records
  by_cases q : μ 120 4 = 4
  · rw [if_pos q]
    have hn : (μ 120 4).toNatClampNeg = 4 := by rw [q]; rfl
    obtain ⟨μ', e, a, b⟩ := rec10_at 325 0 μ (by omega) (by omega)
    rw [e]
    have e4 : (st μ' 120 4 (μ' 120 4 - 1)) 120 4 = nI 3 := by rw [st_eq, b 120 (by decide), q]; decide
    have r3 : rg ((st μ' 120 4 (μ' 120 4 - 1)) 120 4) 3 := by rw [e4]; exact rg_of (by decide) (by decide)
    obtain ⟨c, d⟩ := rec50_at 109 0 (st μ' 120 4 (μ' 120 4 - 1)) (by omega) (by omega) r3
    have n3 : ((st μ' 120 4 (μ' 120 4 - 1)) 120 4).toNatClampNeg = 3 := by rw [e4]; rfl
    have s121 : (st μ' 120 4 (μ' 120 4 - 1)) 121 = μ 121 := (st_nei (by decide)).trans (b 121 (by decide))
    have s123 : (st μ' 120 4 (μ' 120 4 - 1)) 123 = μ' 123 := st_nei (by decide)
    refine ⟨3, by omega, Or.inl ⟨hn, rfl⟩, ?_, fun x hx => ?_, fun j x hj hx => ?_⟩
    · rw [d, e4, nI_1]
    · rw [c, n3, if_pos (by omega), s121, show 108 * 3 + x - 108 * 3 = x by omega]
    · rw [c, n3, if_neg (by omega), s123, a, if_pos (by omega), if_pos hn, show 108 * (j + 1) + x = 108 * j + x + 108 by omega]
  · rw [if_neg q]
    have r3 := rg_ne (n := 3) h (by decide) q
    obtain ⟨c, d⟩ := rec50_at 109 0 μ (by omega) (by omega) r3
    have h3 := r3.2
    have hn : (μ 120 4).toNatClampNeg ≠ 4 := by omega
    refine ⟨(μ 120 4).toNatClampNeg, h3, Or.inr ⟨hn, rfl⟩, ?_, fun x hx => ?_, fun j x hj hx => ?_⟩
    · rw [d]
      conv => lhs; rw [r3.1]
      exact nI_1 _
    · rw [c, if_pos (by omega)]
      congr 1
      omega
    · rw [c, if_neg (by omega), if_neg hn]
-- the class's row of states
theorem drop_at (ω : Mem) (h : ∀ j, j < 4 → isH (hB ω j)) : (∀ j, j < 3 → hB (f_X1_dropOldest ω) j = hB ω (j + 1)) ∧ hB (f_X1_dropOldest ω) 3 = hB ω 0 ∧ (f_X1_dropOldest ω) 52 1 = 3 ∧ ∀ z, z ≠ 52 → z ≠ 53 → (f_X1_dropOldest ω) z = ω z := by
  have cl : ∀ j, j < 4 → (nI (hB ω j)).toNatClampNeg = hB ω j := fun j hj => nI_clamp (by rcases h j hj with q | q | q | q <;> omega)
  have e : f_X1_dropOldest ω = st (st (st (st (st ω 53 0 (nI (hB ω 1))) 53 1 (nI (hB ω 2))) 53 2 (nI (hB ω 3))) 53 3 (nI (hB ω 0))) 52 1 3 := rfl
  rw [e]
  refine ⟨fun j hj => ?_, ?_, st_eq, fun z h1 h2 => ?_⟩
  · unfold hB
    rw [st_nei (by decide), st_ne (by omega)]
    rcases (show j = 0 ∨ j = 1 ∨ j = 2 by omega) with rfl | rfl | rfl
    · rw [st_ne (by decide), st_ne (by decide), st_eq]; exact cl 1 (by decide)
    · rw [st_ne (by decide), st_eq]; exact cl 2 (by decide)
    · rw [st_eq]; exact cl 3 (by decide)
  · show ((st (st (st (st (st ω 53 0 (nI (hB ω 1))) 53 1 (nI (hB ω 2))) 53 2 (nI (hB ω 3))) 53 3 (nI (hB ω 0))) 52 1 3) 53 3).toNatClampNeg = hB ω 0
    rw [st_nei (by decide), st_eq]; exact cl 0 (by decide)
  · rw [st_nei (fun q => h1 q.symm), st_nei (fun q => h2 q.symm), st_nei (fun q => h2 q.symm), st_nei (fun q => h2 q.symm), st_nei (fun q => h2 q.symm)]
theorem isH_far {a b : Nat} (h1 : isH a) (h2 : isH b) (h : a ≠ b) : a + 16 ≤ b ∨ b + 16 ≤ a := by
  rcases h1 with rfl | rfl | rfl | rfl <;> rcases h2 with rfl | rfl | rfl | rfl <;> first | omega | exact absurd rfl h
theorem isH_rg {a : Nat} (h : isH a) : 54 ≤ a ∧ a ≤ 102 := by rcases h with rfl | rfl | rfl | rfl <;> omega
/-- a state is recorded -/
theorem record_at (ω : Mem) (h : ∀ j, j < 4 → isH (hB ω j)) (n0 : Nat) (hn : ω 52 1 = nI n0) (hn4 : n0 ≤ 4) : ∃ (ω1 : Mem) (n : Nat), n ≤ 3 ∧ (n0 = 4 ∧ n = 3 ∧ ω1 = f_X1_dropOldest ω ∨ n0 ≠ 4 ∧ n = n0 ∧ ω1 = ω) ∧ f_X1_record 1 ω = st (f_X5_copyFrom (hB ω1 n) 1 ω1) 52 1 (nI (n + 1)) ∧ isH (hB ω1 n) := by
  unfold f_X1_record
  by_cases q : n0 = 4
  · have q1 : ¬ ω 52 1 < 4 := by rw [hn, q]; decide
    obtain ⟨d1, d2, d3, d4⟩ := drop_at ω h
    have hH : isH (hB (f_X1_dropOldest ω) 3) := by rw [d2]; exact h 0 (by decide)
    have i3 : ((f_X1_dropOldest ω) 53 ((f_X1_dropOldest ω) 52 1).toNatClampNeg).toNatClampNeg = hB (f_X1_dropOldest ω) 3 := by rw [d3]; rfl
    have r := isH_rg hH
    have c52 : (f_X5_copyFrom (hB (f_X1_dropOldest ω) 3) 1 (f_X1_dropOldest ω)) 52 1 = 3 := by
      rw [(CF.copy (by omega)) 52 (by omega)]; exact d3
    refine ⟨f_X1_dropOldest ω, 3, by omega, Or.inl ⟨q, rfl, rfl⟩, ?_, hH⟩
    rw [if_neg q1, i3, c52, d3, if_neg (by decide), if_neg (by decide)]
    rfl
  · have q1 : ω 52 1 < 4 := by
      rw [hn]
      exact nI_lt (b := 4) (by omega) (by decide)
    have hH : isH (hB ω n0) := h n0 (by omega)
    have i3 : (ω 53 (ω 52 1).toNatClampNeg).toNatClampNeg = hB ω n0 := by rw [hn, nI_clamp (by omega)]; rfl
    have r := isH_rg hH
    have c52 : (f_X5_copyFrom (hB ω n0) 1 ω) 52 1 = nI n0 := by
      rw [(CF.copy (by omega)) 52 (by omega)]; exact hn
    refine ⟨ω, n0, by omega, Or.inr ⟨q, rfl, rfl⟩, ?_, hH⟩
    rw [if_pos q1, i3, c52, hn, if_neg (nI_pos (by omega)), if_neg, nI_1]
    exact nI_ge (b := 4) (by omega) (by decide)
theorem record_sim {ω μ : Mem} (h : HR ω μ) (h1 : SX 1 ω (μ 121)) : HR (f_X1_record 1 ω) (f_X8_records μ) ∧ ∀ z, (z < 52 ∨ 118 ≤ z) → (f_X1_record 1 ω) z = ω z := by
  obtain ⟨hH, hinj, hsz, hr, hS⟩ := h
  obtain ⟨ω1, n, hn3, hcase, hrec, hHn⟩ := record_at ω hH (μ 120 4).toNatClampNeg (hsz.trans hr.1) hr.2
  obtain ⟨n', hn3', hcase', m4, mN, mJ⟩ := records_at μ hr
  have hnn : n' = n := by
    rcases hcase with ⟨a, b, -⟩ | ⟨a, b, -⟩ <;> rcases hcase' with ⟨c, d⟩ | ⟨c, d⟩ <;> omega
  subst hnn
  have r := isH_rg hHn
  -- the world that is copied into
  have hω1 : (∀ j, j < 4 → isH (hB ω1 j)) ∧ (∀ i j, i < 4 → j < 4 → hB ω1 i = hB ω1 j → i = j) ∧ (∀ z, z ≠ 52 → z ≠ 53 → ω1 z = ω z) ∧ ∀ j, j < n' → SX (hB ω1 j) ω1 (fun x => if (μ 120 4).toNatClampNeg = 4 then μ 123 (108 * (j + 1) + x) else μ 123 (108 * j + x)) := by
    rcases hcase with ⟨a, b, c⟩ | ⟨a, b, c⟩
    · subst c
      obtain ⟨d1, d2, d3, d4⟩ := drop_at ω hH
      have hv : ∀ j, j < 4 → hB (f_X1_dropOldest ω) j = hB ω (if j = 3 then 0 else j + 1) := by
        intro j hj
        by_cases q : j = 3
        · rw [if_pos q, q]; exact d2
        · rw [if_neg q]; exact d1 j (by omega)
      refine ⟨fun j hj => ?_, fun i j hi hj e => ?_, d4, fun j hj => ?_⟩
      · rw [hv j hj]
        by_cases q : j = 3
        · rw [if_pos q]; exact hH 0 (by decide)
        · rw [if_neg q]; exact hH (j + 1) (by omega)
      · rw [hv i hi, hv j hj] at e
        have := hinj _ _ (by split <;> omega) (by split <;> omega) e
        by_cases q1 : i = 3 <;> by_cases q2 : j = 3
        · omega
        · rw [if_pos q1, if_neg q2] at this; omega
        · rw [if_neg q1, if_pos q2] at this; omega
        · rw [if_neg q1, if_neg q2] at this; omega
      · rw [d1 j (by omega)]
        have q := hS (j + 1) (by omega)
        have r2 := isH_rg (hH (j + 1) (by omega))
        have q2 := q.congr (ω' := f_X1_dropOldest ω) (fun z hz => d4 _ (by omega) (by omega))
        exact q2.cs (fun x hx => by rw [if_pos a])
    · subst c
      refine ⟨hH, hinj, fun _ _ _ => rfl, fun j hj => ?_⟩
      exact (hS j (by omega)).cs (fun x hx => by rw [if_neg a])
  obtain ⟨w1, w2, w3, w4⟩ := hω1
  have cf := CF.copy (B := hB ω1 n') (k := 1) (ω := ω1) (by omega)
  have row53 : (f_X1_record 1 ω) 53 = ω1 53 := by rw [hrec, st_nei (by decide), cf 53 (by omega)]
  have hBe : ∀ j, hB (f_X1_record 1 ω) j = hB ω1 j := fun j => by unfold hB; rw [row53]
  refine ⟨⟨fun j hj => by rw [hBe]; exact w1 j hj, fun i j hi hj e => w2 i j hi hj (by rw [← hBe, ← hBe]; exact e), ?_, ?_, fun j hj => ?_⟩, fun z hz => ?_⟩
  · rw [hrec, st_eq, m4]
  · rw [m4]; exact rg_of (by omega) (by decide)
  · rw [m4, nI_clamp (by omega)] at hj
    rw [hBe]
    by_cases q : j = n'
    · have cp := (h1.congr (ω' := ω1) (fun z hz => w3 _ (by omega) (by omega))).copy (B := hB ω1 n') (by omega)
      rw [q]
      have c2 := cp.congr (ω' := f_X1_record 1 ω) (fun z hz => by rw [hrec, st_nei (by omega)])
      exact c2.cs (fun x hx => mN x hx)
    · have hne : hB ω1 j ≠ hB ω1 n' := fun e => q (w2 _ _ (by omega) (by omega) e)
      have fr := isH_far (w1 j (by omega)) hHn hne
      have r2 := isH_rg (w1 j (by omega))
      have c2 := (w4 j (by omega)).congr (ω' := f_X1_record 1 ω) (fun z hz => by rw [hrec, st_nei (by omega), cf _ (by omega)])
      exact c2.cs (fun x hx => mJ j x (by omega) hx)
  · rw [hrec, st_nei (by omega), cf z (by omega), w3 z (by omega) (by omega)]
