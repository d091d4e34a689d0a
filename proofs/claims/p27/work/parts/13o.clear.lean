theorem aside_at : ∀ (fu j : Nat) (μ : Mem), 108 < j + fu → j ≤ 108 → (∀ z, j ≤ z → z < 108 → (f_X8_putAside_2 fu j μ) 122 z = μ 121 z) ∧ (∀ z, z < j → (f_X8_putAside_2 fu j μ) 122 z = μ 122 z) ∧ (∀ i, i ≠ 122 → (f_X8_putAside_2 fu j μ) i = μ i) := by
  intro fu
  induction fu with
  | zero => intro j μ h1 h2; omega
  | succ fu ih =>
    intro j μ h1 h2
    unfold f_X8_putAside_2
    by_cases h : 108 ≤ j
    · rw [if_pos h]
      exact ⟨fun z a b => by omega, fun z a => rfl, fun i a => rfl⟩
    · rw [if_neg h]
      obtain ⟨a2, a3, a4⟩ := ih (j + 1) (st μ 122 j (μ 121 j)) (by omega) (by omega)
      refine ⟨fun z b1 b2 => ?_, fun z b1 => ?_, fun i b1 => (a4 i b1).trans (st_nei (fun e => b1 e.symm))⟩
      · by_cases hz : z = j
        · rw [hz, a3 j (by omega), st_eq]
        · rw [a2 z (by omega) b2, st_nei (by decide)]
      · rw [a3 z (by omega), st_ne (by omega)]
theorem back_at : ∀ (fu j : Nat) (μ : Mem), 108 < j + fu → j ≤ 108 → (∀ z, j ≤ z → z < 108 → (f_X8_takeBack_2 fu j μ) 121 z = μ 122 z) ∧ (∀ z, z < j → (f_X8_takeBack_2 fu j μ) 121 z = μ 121 z) ∧ (∀ i, i ≠ 121 → (f_X8_takeBack_2 fu j μ) i = μ i) := by
  intro fu
  induction fu with
  | zero => intro j μ h1 h2; omega
  | succ fu ih =>
    intro j μ h1 h2
    unfold f_X8_takeBack_2
    by_cases h : 108 ≤ j
    · rw [if_pos h]
      exact ⟨fun z a b => by omega, fun z a => rfl, fun i a => rfl⟩
    · rw [if_neg h]
      obtain ⟨a2, a3, a4⟩ := ih (j + 1) (st μ 121 j (μ 122 j)) (by omega) (by omega)
      refine ⟨fun z b1 b2 => ?_, fun z b1 => ?_, fun i b1 => (a4 i b1).trans (st_nei (fun e => b1 e.symm))⟩
      · by_cases hz : z = j
        · rw [hz, a3 j (by omega), st_eq]
        · rw [a2 z (by omega) b2, st_nei (by decide)]
      · rw [a3 z (by omega), st_ne (by omega)]
theorem unb_eq {B k t g : Nat} {ω μ : Mem} (h : SM B t g ω μ) (hk : k < 4) : f_X5_flowsUnburnt B (B + 4 + k) ω = if f_X8_isOpen k μ = 0 then 0 else if f_X8_get k 4 μ = 0 then 1 else 0 := by
  unfold f_X5_flowsUnburnt
  rw [open_eq h.1 hk (h.ib hk), h.1.b4 hk]
  rfl
theorem clr0 : ∀ (fu j : Nat) (μ : Mem), 4 < j + fu → f_X8_isClear_17 fu 0 j μ = 0 := by
  intro fu
  induction fu with
  | zero =>
    intro j μ h; rfl
  | succ fu ih =>
    intro j μ h
    unfold f_X8_isClear_17
    by_cases q : 4 ≤ j
    · rw [if_pos q]
    · rw [if_neg q, if_pos rfl]; exact ih (j + 1) μ (by omega)
theorem clr1 (fu j : Nat) (μ : Mem) (h : 4 < j + (fu + 1)) (hj : j < 4) : f_X8_isClear_17 (fu + 1) 1 j μ = if (if f_X8_isOpen j μ = 0 then (0 : Int32) else if f_X8_get j 4 μ = 0 then 1 else 0) = 0 then f_X8_isClear_17 fu 1 (j + 1) μ else 0 := by
  conv => lhs; unfold f_X8_isClear_17
  rw [if_neg (by omega), if_neg (by decide : ¬ (1 : Int32) = 0)]
  by_cases q : f_X8_isOpen j μ = 0
  · rw [if_pos q, if_pos q, if_pos rfl]
  · rw [if_neg q, if_neg q]
    by_cases q1 : f_X8_get j 4 μ = 0
    · rw [if_pos q1, if_pos q1, if_neg (by decide : ¬ (1 : Int32) = 0)]
      exact clr0 fu (j + 1) μ (by omega)
    · rw [if_neg q1, if_neg q1, if_pos rfl]
theorem clear_eq {B t g : Nat} {ω μ : Mem} (h : SM B t g ω μ) (hg : g < 2 ^ 31) : f_X5_isClear B ω = f_X8_isClear μ := by
  unfold f_X5_isClear f_X8_isClear
  rw [h.1.s5]
  obtain ⟨n, hn, en⟩ := rg_ex h.2.2.2.1.2
  by_cases q : n = 0
  · have e1 : μ 121 5 = 0 := by rw [en, q]; rfl
    have e2 : μ 121 5 ≤ 0 := by rw [e1]; decide
    rw [if_pos e1, if_pos e2]
    have u0 := unb_eq h (k := 0) (by decide)
    have u1 := unb_eq h (k := 1) (by decide)
    have u2 := unb_eq h (k := 2) (by decide)
    have u3 := unb_eq h (k := 3) (by decide)
    rw [show B + 4 = B + 4 + 0 from rfl, show B + 5 = B + 4 + 1 from rfl, show B + 6 = B + 4 + 2 from rfl, show B + 7 = B + 4 + 3 from rfl, u0, u1, u2, u3]
    rw [clr1 4 0 μ (by decide) (by decide), clr1 3 (0 + 1) μ (by decide) (by decide), clr1 2 (0 + 1 + 1) μ (by decide) (by decide), clr1 1 (0 + 1 + 1 + 1) μ (by decide) (by decide)]
    have e4 : f_X8_isClear_17 1 1 (0 + 1 + 1 + 1 + 1) μ = 1 := rfl
    rw [e4]
  · have e1 : ¬ μ 121 5 = 0 := by rw [en]; exact fun e => q ((nI_eq (by omega) (by decide)).1 e)
    have e2 : ¬ μ 121 5 ≤ 0 := by rw [en]; exact nI_ge (a := 0) (by omega) (by omega)
    rw [if_neg e1, if_neg e2]
    exact (clr0 5 0 μ (by decide)).symm
theorem clear_lp : ∀ (fu j T : Nat) (ω μ : Mem), 501 < j + fu → j ≤ 501 → SM 33 T (56 * T) ω μ → T + (501 - j) ≤ 2 ^ 20 → ∃ (r : Int32) (ω' μ' : Mem), f_X7_clearIn_13 fu j ω = (r, ω') ∧ f_X8_clearIn_11 fu j μ = (r, f_X8_takeBack μ') ∧ CF 33 ω ω' ∧ MF μ μ' := by
  intro fu
  induction fu with
  | zero => intro j T ω μ h1 h2; omega
  | succ fu ih =>
    intro j T ω μ h1 h2 h hT
    unfold f_X7_clearIn_13 f_X8_clearIn_11
    by_cases q : 500 < j
    · rw [if_pos q, if_pos q, if_neg (by omega)]
      exact ⟨_, _, _, rfl, rfl, CF.rf, MF.rf⟩
    · rw [if_neg q, if_neg q, clear_eq h (by omega)]
      by_cases q1 : f_X8_isClear μ = 0
      · rw [if_pos q1, if_pos q1]
        obtain ⟨a, b, c⟩ := tick_sim h (Or.inr (Or.inr (Or.inl rfl))) (by omega)
        obtain ⟨r, ω', μ', r1, r2, r3, r4⟩ := ih (j + 1) (T + 1) _ _ (by omega) (by omega) a (by omega)
        exact ⟨r, ω', μ', r1, r2, b.tr r3, c.tr r4⟩
      · rw [if_neg q1, if_neg q1, if_pos (by omega)]
        exact ⟨_, _, _, rfl, rfl, CF.rf, MF.rf⟩
theorem op_clearIn {ω μ : Mem} (h : LW ω μ) : OPW ω μ (f_X7_clearIn ω) (f_X8_clearIn μ) := by
  refine OPW.th ?_
  have h := h.th
  unfold f_X8_clearIn f_X7_clearIn
  generalize st μ 120 0 0 = μ at *
  obtain ⟨a2, a3, a4⟩ := aside_at 109 0 μ (by decide) (by decide)
  obtain ⟨T, h1, h2⟩ := h.sm
  have e121 : (f_X8_putAside μ) 121 = μ 121 := a4 121 (by decide)
  have c0 : CF 33 ω (f_X5_copyFrom 33 1 ω) := CF.copy (by decide)
  have s1 : SM 33 T (56 * T) (f_X5_copyFrom 33 1 ω) (f_X8_putAside μ) := by
    unfold SM
    rw [e121]
    exact ⟨h2.1.copy (by decide), h2.2⟩
  obtain ⟨r, ω', μ', r1, r2, r3, r4⟩ := clear_lp 502 0 T _ _ (by decide) (by decide) s1 (by omega)
  rw [r1, r2]
  obtain ⟨b2, b3, b4⟩ := back_at 109 0 μ' (by decide) (by decide)
  have cc : CF 33 ω ω' := c0.tr r3
  have m1 : ∀ i, i ≠ 121 → i ≠ 122 → (f_X8_takeBack μ') i = μ i := fun i q1 q2 => ((b4 i q1).trans (r4.1 i q1)).trans (a4 i q2)
  have m2 : ∀ z, z < 108 → (f_X8_takeBack μ') 121 z = μ 121 z := fun z hz => by
    have e : (f_X8_takeBack μ') 121 z = μ' 122 z := b2 z (Nat.zero_le _) hz
    rw [e, r4.1 122 (by decide)]
    exact a2 z (Nat.zero_le _) hz
  generalize f_X8_takeBack μ' = μ2 at *
  refine ⟨rfl, ?_, fun z hz => cc z (by omega), fun z hz => m1 z (by omega) (by omega)⟩
  dsimp only
  refine ⟨(h.1.congr (fun j hj => cc _ (by omega))).cs m2, ⟨?_, fun q => ?_⟩, ?_, ?_, ?_, fun j hj => ?_⟩
  · rw [cc 0 (by decide), m1 120 (by decide) (by decide)]; exact h.2.1.1
  · rw [m1 120 (by decide) (by decide)] at q
    rw [m1 124 (by decide) (by decide)]; exact (h.2.1.2 q).congr (fun j hj => cc _ (by omega))
  · exact h.2.2.1.congr (fun z q1 q2 => cc z (by omega)) (by rw [m1 120 (by decide) (by decide)]) (m1 123 (by decide) (by decide))
  · rw [cc 118 (by decide), m1 120 (by decide) (by decide)]; exact h.2.2.2.1
  · rw [m1 120 (by decide) (by decide)]; exact h.2.2.2.2.1
  · rw [m1 120 (by decide) (by decide)] at hj
    rw [cc 119 (by decide), m1 125 (by decide) (by decide)]; exact h.2.2.2.2.2 j hj
