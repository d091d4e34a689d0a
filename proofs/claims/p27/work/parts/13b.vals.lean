theorem ite_lt_le1 {e g : Int32} : (if g < e then e else g) = (if g ≤ e then e else g) := by
  by_cases h : g < e
  · rw [if_pos h, if_pos]
    rw [Int32.lt_iff_toInt_lt] at h
    rw [Int32.le_iff_toInt_le]
    omega
  · rw [if_neg h]
    by_cases h2 : g ≤ e
    · rw [if_pos h2]
      rw [Int32.lt_iff_toInt_lt] at h
      rw [Int32.le_iff_toInt_le] at h2
      exact Int32.toInt_inj.mp (by omega)
    · rw [if_neg h2]
theorem ite_lt_le2 {e g : Int32} : (if e < g then e else g) = (if e ≤ g then e else g) := by
  by_cases h : e < g
  · rw [if_pos h, if_pos]
    rw [Int32.lt_iff_toInt_lt] at h
    rw [Int32.le_iff_toInt_le]
    omega
  · rw [if_neg h]
    by_cases h2 : e ≤ g
    · rw [if_pos h2]
      rw [Int32.lt_iff_toInt_lt] at h
      rw [Int32.le_iff_toInt_le] at h2
      exact Int32.toInt_inj.mp (by omega)
    · rw [if_neg h2]
theorem val0 {i : Nat} {ω : Mem} : f_X4_valueOf i 0 ω = ω (i + 1) 0 := by
  unfold f_X4_valueOf f_X7_elementAt
  rw [if_neg (by decide), if_neg (by decide)]
  rfl
theorem val1 {i : Nat} {ω : Mem} : f_X4_valueOf i 1 ω = ω (i + 1) 1 := by
  unfold f_X4_valueOf f_X7_elementAt
  rw [if_neg (by decide), if_neg (by decide)]
  rfl
theorem val2 {i : Nat} {ω : Mem} : f_X4_valueOf i 2 ω = ω (i + 1) 2 := by
  unfold f_X4_valueOf f_X7_elementAt
  rw [if_neg (by decide), if_neg (by decide)]
  rfl
theorem val3 {i : Nat} {ω : Mem} : f_X4_valueOf i 3 ω = ω (i + 1) 3 := by
  unfold f_X4_valueOf f_X7_elementAt
  rw [if_neg (by decide), if_neg (by decide)]
  rfl
theorem RS.v0 {B : Nat} {ω : Mem} {s : Nat → Int32} (h : RS B ω s) : f_X4_valueOf (B + 1) 0 ω = s 0 := val0.trans (h.1 0 (by decide))
theorem RS.v1 {B : Nat} {ω : Mem} {s : Nat → Int32} (h : RS B ω s) : f_X4_valueOf (B + 1) 1 ω = s 1 := val1.trans (h.1 1 (by decide))
theorem RS.v2 {B : Nat} {ω : Mem} {s : Nat → Int32} (h : RS B ω s) : f_X4_valueOf (B + 1) 2 ω = s 2 := val2.trans (h.1 2 (by decide))
theorem RS.v3 {B : Nat} {ω : Mem} {s : Nat → Int32} (h : RS B ω s) : f_X4_valueOf (B + 1) 3 ω = s 3 := val3.trans (h.1 3 (by decide))
theorem RS.f {B k : Nat} {ω : Mem} {s : Nat → Int32} (h : RS B ω s) (hk : k < 4) (w : Nat) (hw : w < 10) : cv w (ω (B + 4 + k) w) = s (68 + 10 * k + w) := h.2.2.2.2.2 k hk w hw
theorem RS.b0 {B k : Nat} {ω : Mem} {s : Nat → Int32} (h : RS B ω s) (hk : k < 4) : ω (B + 4 + k) 0 = s (68 + 10 * k + 0) := h.f hk 0 (by decide)
theorem RS.b1 {B k : Nat} {ω : Mem} {s : Nat → Int32} (h : RS B ω s) (hk : k < 4) : ω (B + 4 + k) 1 = s (68 + 10 * k + 1) := h.f hk 1 (by decide)
theorem RS.b2 {B k : Nat} {ω : Mem} {s : Nat → Int32} (h : RS B ω s) (hk : k < 4) : bb (ω (B + 4 + k) 2) = s (68 + 10 * k + 2) := h.f hk 2 (by decide)
theorem RS.b3 {B k : Nat} {ω : Mem} {s : Nat → Int32} (h : RS B ω s) (hk : k < 4) : bb (ω (B + 4 + k) 3) = s (68 + 10 * k + 3) := h.f hk 3 (by decide)
theorem RS.b4 {B k : Nat} {ω : Mem} {s : Nat → Int32} (h : RS B ω s) (hk : k < 4) : bb (ω (B + 4 + k) 4) = s (68 + 10 * k + 4) := h.f hk 4 (by decide)
theorem RS.b5 {B k : Nat} {ω : Mem} {s : Nat → Int32} (h : RS B ω s) (hk : k < 4) : ω (B + 4 + k) 5 = s (68 + 10 * k + 5) := h.f hk 5 (by decide)
theorem RS.b6 {B k : Nat} {ω : Mem} {s : Nat → Int32} (h : RS B ω s) (hk : k < 4) : bb (ω (B + 4 + k) 6) = s (68 + 10 * k + 6) := h.f hk 6 (by decide)
theorem RS.b7 {B k : Nat} {ω : Mem} {s : Nat → Int32} (h : RS B ω s) (hk : k < 4) : ω (B + 4 + k) 7 = s (68 + 10 * k + 7) := h.f hk 7 (by decide)
theorem RS.b8 {B k : Nat} {ω : Mem} {s : Nat → Int32} (h : RS B ω s) (hk : k < 4) : ω (B + 4 + k) 8 = s (68 + 10 * k + 8) := h.f hk 8 (by decide)
theorem RS.b9 {B k : Nat} {ω : Mem} {s : Nat → Int32} (h : RS B ω s) (hk : k < 4) : ω (B + 4 + k) 9 = s (68 + 10 * k + 9) := h.f hk 9 (by decide)
theorem RS.s4 {B : Nat} {ω : Mem} {s : Nat → Int32} (h : RS B ω s) : ω B 4 = s 4 := h.2.1 0 (by decide)
theorem RS.s5 {B : Nat} {ω : Mem} {s : Nat → Int32} (h : RS B ω s) : ω B 5 = s 5 := h.2.1 1 (by decide)
theorem RS.s6 {B : Nat} {ω : Mem} {s : Nat → Int32} (h : RS B ω s) : ω B 6 = s 6 := h.2.1 2 (by decide)
theorem RS.s7 {B : Nat} {ω : Mem} {s : Nat → Int32} (h : RS B ω s) : ω B 7 = s 7 := h.2.1 3 (by decide)
theorem rg_ex {x : Int32} {n : Nat} (h : rg x n) : ∃ j, j ≤ n ∧ x = nI j := ⟨_, h.2, h.1⟩
theorem rg2 {x : Int32} (h : rg x 2) : x = 0 ∨ x = 1 ∨ x = 2 := by
  obtain ⟨j, hj, e⟩ := rg_ex h
  rcases (show j = 0 ∨ j = 1 ∨ j = 2 by omega) with rfl | rfl | rfl
  · exact Or.inl e
  · exact Or.inr (Or.inl e)
  · exact Or.inr (Or.inr e)
theorem open_eq {B k : Nat} {ω μ : Mem} (h : RS B ω (μ 121)) (hk : k < 4) (hI : IB (μ 121) k) : f_X5_isOpen B (B + 4 + k) ω = f_X8_isOpen k μ := by
  unfold f_X5_isOpen f_X0_isOpen f_X8_isOpen f_X8_get
  have e2 := bb01 (ω (B + 4 + k) 2)
  rw [h.v0, h.b6 hk, h.b1 hk, h.b5 hk]
  rw [h.b2 hk] at e2 ⊢
  have t2 := rg2 hI.2.1
  by_cases h6 : μ 121 (68 + 10 * k + 6) = 0
  · rw [if_pos h6, if_pos h6]
    rcases t2 with q | q | q <;> rcases e2 with z | z <;> rw [q, z] <;> rfl
  · rw [if_neg h6, if_neg h6]
/-- the model's answer is 0 or 1; 1 only with a tap that isn't off -/
theorem open01 (k : Nat) (μ : Mem) : f_X8_isOpen k μ = 0 ∨ (f_X8_isOpen k μ = 1 ∧ ¬ μ 121 (68 + 10 * k + 1) = 0) := by
  unfold f_X8_isOpen f_X8_get
  by_cases h6 : μ 121 (68 + 10 * k + 6) = 0
  · rw [if_pos h6]
    by_cases h1 : μ 121 (68 + 10 * k + 1) ≤ 0
    · rw [if_pos h1]; exact Or.inl rfl
    · rw [if_neg h1]
      have hn : ¬ μ 121 (68 + 10 * k + 1) = 0 := ne_of_nle h1
      by_cases h2 : μ 121 (68 + 10 * k + 2) = 1
      · rw [if_pos h2]; exact Or.inr ⟨rfl, hn⟩
      · rw [if_neg h2]
        by_cases h5 : μ 121 (68 + 10 * k + 5) < μ 121 0
        · rw [if_pos h5]; exact Or.inl rfl
        · rw [if_neg h5]; exact Or.inr ⟨rfl, hn⟩
  · rw [if_neg h6]; exact Or.inl rfl
theorem strength_eq {B k : Nat} {ω μ : Mem} (h : RS B ω (μ 121)) (hk : k < 4) (hI : IB (μ 121) k) : f_X0_strength (B + 4 + k) ω = f_X8_strength k μ := by
  unfold f_X0_strength f_X0_told f_X8_strength f_X8_strengthOf f_X8_get f_X7_elementAtT f_X8_choose
  rw [h.b0 hk, h.b1 hk]
  rcases rg2 hI.1 with q | q | q <;> rcases rg2 hI.2.1 with z | z | z <;> rw [q, z] <;> decide
theorem flow_eq {B k : Nat} {ω μ : Mem} (h : RS B ω (μ 121)) (hk : k < 4) (hI : IB (μ 121) k) (ht : ¬ μ 121 (68 + 10 * k + 1) = 0) : f_X0_flow (B + 4 + k) ω = f_X8_flow (μ 121 (68 + 10 * k + 0)) (μ 121 (68 + 10 * k + 1)) μ := by
  unfold f_X0_flow f_X0_told f_X8_flow f_X7_elementAtT f_X8_choose
  rw [h.b0 hk, h.b1 hk]
  rcases rg2 hI.1 with q | q | q <;> rcases rg2 hI.2.1 with z | z | z <;> first | exact absurd z ht | (rw [q, z]; decide)
theorem flow_rg {k t : Int32} {μ : Mem} : rg (f_X8_flow k t μ) 14 := by
  unfold f_X8_flow
  by_cases h : t = 1
  · rw [if_pos h]
    rcases choose_v k 2 4 6 μ with q | q | q <;> rw [q]
    · exact rg_of (j := 2) (by decide) (by decide)
    · exact rg_of (j := 4) (by decide) (by decide)
    · exact rg_of (j := 6) (by decide) (by decide)
  · rw [if_neg h]
    rcases choose_v k 4 9 14 μ with q | q | q <;> rw [q]
    · exact rg_of (j := 4) (by decide) (by decide)
    · exact rg_of (j := 9) (by decide) (by decide)
    · exact rg_of (j := 14) (by decide) (by decide)
theorem heat_eq {B k : Nat} {ω μ : Mem} {t : Int32} (h : RS B ω (μ 121)) (hk : k < 4) (hI : IB (μ 121) k) (ht : t = 1 ∨ t = 2) : f_X0_heatAt (B + 4 + k) t ω = f_X8_heat (μ 121 (68 + 10 * k + 0)) t μ := by
  unfold f_X0_heatAt f_X0_told f_X8_heat f_X7_elementAtT f_X8_choose
  rw [h.b0 hk]
  rcases rg2 hI.1 with q | q | q <;> rcases ht with z | z <;> rw [q, z] <;> decide
theorem temp_eq {B k : Nat} {ω μ : Mem} {t g : Int32} (h : RS B ω (μ 121)) (hk : k < 4) (hI : IB (μ 121) k) : f_X0_temperatureAfter (B + 4 + k) t g ω = f_X8_byFlame (μ 121 (68 + 10 * k + 0)) t g μ := by
  unfold f_X0_temperatureAfter f_X8_byFlame f_X8_cooled f_X8_warmed
  rw [ite_lt_le1, ite_lt_le2, h.b0 hk]
  unfold f_X0_quotient f_X7_elementAtT f_X8_choose
  rcases rg2 hI.1 with q | q | q <;> rw [q] <;> rfl
theorem draft_lp {B : Nat} {ω μ : Mem} {t : Int32} (h : RS B ω (μ 121)) : ∀ (fu : Nat) (d : Int32) (j : Nat), j ≤ (μ 121 43).toNatClampNeg → f_X3_draftIn_4 fu (B + 8) t d j ω = f_X8_draftAt_4 fu t d j μ := by
  obtain ⟨-, -, -, -, ⟨h7, h8, h9⟩, -⟩ := h
  have h12 := h8.2
  intro fu
  induction fu with
  | zero => intro d j hj; rfl
  | succ fu ih =>
    intro d j hj
    unfold f_X3_draftIn_4 f_X8_draftAt_4
    by_cases hc : (μ 121 43).toNatClampNeg ≤ j
    · rw [if_pos hc, if_pos]
      rw [h7, h8.1]
      exact nI_le hc (by omega)
    · have e1 := h9 j (by omega) 0 (by decide)
      have e2 := h9 j (by omega) 1 (by decide)
      rw [if_neg hc, if_neg, if_neg (by omega)]
      · rw [show B + 8 + 1 = B + 9 + 0 by omega, show B + 8 + 2 = B + 9 + 1 by omega, e1, e2, ih _ _ (by omega), ih _ _ (by omega)]
        rfl
      · rw [h7, h8.1]
        exact nI_ge (by omega) (by omega)
theorem draft_eq {B : Nat} {ω μ : Mem} {t : Int32} (h : RS B ω (μ 121)) : f_X3_draftIn (B + 8) t ω = f_X8_draftAt t μ := draft_lp h 13 0 0 (Nat.zero_le _)
theorem draft_rg {t : Int32} {μ : Mem} (hd : ∀ j, j < (μ 121 43).toNatClampNeg → rg (μ 121 (44 + 2 * j + 1)) 9) : rg (f_X8_draftAt t μ) 9 := by
  have key : ∀ (fu : Nat) (d : Int32) (j : Nat), rg d 9 → rg (f_X8_draftAt_4 fu t d j μ) 9 := by
    intro fu
    induction fu with
    | zero => intro d j h; exact rg_of (j := 0) (by decide) (by decide)
    | succ fu ih =>
      intro d j h
      unfold f_X8_draftAt_4
      split
      · exact h
      · split
        · exact ih _ _ h
        · exact ih _ _ (hd j (by omega))
  exact key 13 0 0 (rg_of (j := 0) (by decide) (by decide))
