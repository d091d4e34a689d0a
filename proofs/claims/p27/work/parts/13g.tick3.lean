/-- a burner's tick -/
theorem burn_sim {B t g k : Nat} {ω μ : Mem} {d G : Int32} (h : SM B t g ω μ) (hB : isS B) (hk : k < 4) (hg : g < 2 ^ 29) :
    (μ 121 3 ≤ G → SM B t (g + 14) (f_X5_flow B (B + 4 + k) (f_X5_warmOrDrop B (nI k) (B + 4 + k) (f_X5_blow B (nI k) (B + 4 + k) d ω))) (f_X8_burns k d G μ) ∧ CF B ω (f_X5_flow B (B + 4 + k) (f_X5_warmOrDrop B (nI k) (B + 4 + k) (f_X5_blow B (nI k) (B + 4 + k) d ω)))) ∧
    (¬ μ 121 3 ≤ G → SM B t (g + 14) (f_X5_flow B (B + 4 + k) (f_X5_warmOrDrop B (nI k) (B + 4 + k) (f_X5_spark B (nI k) (B + 4 + k) d (f_X5_blow B (nI k) (B + 4 + k) d ω)))) (f_X8_burns k d G μ) ∧ CF B ω (f_X5_flow B (B + 4 + k) (f_X5_warmOrDrop B (nI k) (B + 4 + k) (f_X5_spark B (nI k) (B + 4 + k) d (f_X5_blow B (nI k) (B + 4 + k) d ω))))) ∧
    MF μ (f_X8_burns k d G μ) := by
  obtain ⟨μ1, e1, h1, c1, m1⟩ := step1 (d := d) (G := G) h hB hk
  obtain ⟨μ2, e2, h2, c2, m2⟩ := step2 (d := d) (G := G) h1 hB hk
  have q3 : μ1 121 3 = μ 121 3 := m1.2 3 (by decide)
  rw [q3] at h2 c2
  obtain ⟨μ3, v4, v6, e3, h3, c3, m3⟩ := step3 (d := d) (G := G) h2 hk
  obtain ⟨h4, c4, m4⟩ := step4 (d := d) (G := G) (v4 := v4) (v6 := v6) h3 hk hg
  rw [e1, e2, e3]
  refine ⟨fun hc => ?_, fun hc => ?_, m1.tr (m2.tr (m3.tr m4))⟩
  · rw [if_pos hc] at h4 c4 c3 c2
    exact ⟨h4, c1.tr (c2.tr (c3.tr c4))⟩
  · rw [if_neg hc] at h4 c4 c3 c2
    exact ⟨h4, c1.tr (c2.tr (c3.tr c4))⟩
theorem four_sim {B t g : Nat} {ω μ : Mem} {d G : Int32} (h : SM B t g ω μ) (hB : isS B) (hg : g < 2 ^ 28) :
    (μ 121 3 ≤ G → SM B t (g + 56) (f_X5_flow B (B + 7) (f_X5_warmOrDrop B 3 (B + 7) (f_X5_blow B 3 (B + 7) d (f_X5_flow B (B + 6) (f_X5_warmOrDrop B 2 (B + 6) (f_X5_blow B 2 (B + 6) d (f_X5_flow B (B + 5) (f_X5_warmOrDrop B 1 (B + 5) (f_X5_blow B 1 (B + 5) d (f_X5_flow B (B + 4) (f_X5_warmOrDrop B 0 (B + 4) (f_X5_blow B 0 (B + 4) d ω)))))))))))) (f_X8_burns 3 d G (f_X8_burns 2 d G (f_X8_burns 1 d G (f_X8_burns 0 d G μ)))) ∧ CF B ω (f_X5_flow B (B + 7) (f_X5_warmOrDrop B 3 (B + 7) (f_X5_blow B 3 (B + 7) d (f_X5_flow B (B + 6) (f_X5_warmOrDrop B 2 (B + 6) (f_X5_blow B 2 (B + 6) d (f_X5_flow B (B + 5) (f_X5_warmOrDrop B 1 (B + 5) (f_X5_blow B 1 (B + 5) d (f_X5_flow B (B + 4) (f_X5_warmOrDrop B 0 (B + 4) (f_X5_blow B 0 (B + 4) d ω))))))))))))) ∧
    (¬ μ 121 3 ≤ G → SM B t (g + 56) (f_X5_flow B (B + 7) (f_X5_warmOrDrop B 3 (B + 7) (f_X5_spark B 3 (B + 7) d (f_X5_blow B 3 (B + 7) d (f_X5_flow B (B + 6) (f_X5_warmOrDrop B 2 (B + 6) (f_X5_spark B 2 (B + 6) d (f_X5_blow B 2 (B + 6) d (f_X5_flow B (B + 5) (f_X5_warmOrDrop B 1 (B + 5) (f_X5_spark B 1 (B + 5) d (f_X5_blow B 1 (B + 5) d (f_X5_flow B (B + 4) (f_X5_warmOrDrop B 0 (B + 4) (f_X5_spark B 0 (B + 4) d (f_X5_blow B 0 (B + 4) d ω)))))))))))))))) (f_X8_burns 3 d G (f_X8_burns 2 d G (f_X8_burns 1 d G (f_X8_burns 0 d G μ)))) ∧ CF B ω (f_X5_flow B (B + 7) (f_X5_warmOrDrop B 3 (B + 7) (f_X5_spark B 3 (B + 7) d (f_X5_blow B 3 (B + 7) d (f_X5_flow B (B + 6) (f_X5_warmOrDrop B 2 (B + 6) (f_X5_spark B 2 (B + 6) d (f_X5_blow B 2 (B + 6) d (f_X5_flow B (B + 5) (f_X5_warmOrDrop B 1 (B + 5) (f_X5_spark B 1 (B + 5) d (f_X5_blow B 1 (B + 5) d (f_X5_flow B (B + 4) (f_X5_warmOrDrop B 0 (B + 4) (f_X5_spark B 0 (B + 4) d (f_X5_blow B 0 (B + 4) d ω))))))))))))))))) ∧
    MF μ (f_X8_burns 3 d G (f_X8_burns 2 d G (f_X8_burns 1 d G (f_X8_burns 0 d G μ)))) := by
  obtain ⟨a0, b0, m0⟩ := burn_sim (k := 0) (d := d) (G := G) h hB (by decide) (by omega)
  have q0 : f_X8_burns 0 d G μ 121 3 = μ 121 3 := m0.2 3 (by decide)
  by_cases hc : μ 121 3 ≤ G
  · have x0 := a0 hc
    obtain ⟨a1, -, m1⟩ := burn_sim (k := 1) (d := d) (G := G) x0.1 hB (by decide) (by omega)
    have q1 := m1.2 3 (by decide)
    have x1 := a1 (by rw [q0]; exact hc)
    obtain ⟨a2, -, m2⟩ := burn_sim (k := 2) (d := d) (G := G) x1.1 hB (by decide) (by omega)
    have q2 := m2.2 3 (by decide)
    have x2 := a2 (by rw [q1, q0]; exact hc)
    obtain ⟨a3, -, m3⟩ := burn_sim (k := 3) (d := d) (G := G) x2.1 hB (by decide) (by omega)
    have x3 := a3 (by rw [q2, q1, q0]; exact hc)
    exact ⟨fun _ => ⟨x3.1, x0.2.tr (x1.2.tr (x2.2.tr x3.2))⟩, fun z => absurd hc z, m0.tr (m1.tr (m2.tr m3))⟩
  · have x0 := b0 hc
    obtain ⟨-, a1, m1⟩ := burn_sim (k := 1) (d := d) (G := G) x0.1 hB (by decide) (by omega)
    have q1 := m1.2 3 (by decide)
    have x1 := a1 (by rw [q0]; exact hc)
    obtain ⟨-, a2, m2⟩ := burn_sim (k := 2) (d := d) (G := G) x1.1 hB (by decide) (by omega)
    have q2 := m2.2 3 (by decide)
    have x2 := a2 (by rw [q1, q0]; exact hc)
    obtain ⟨-, a3, m3⟩ := burn_sim (k := 3) (d := d) (G := G) x2.1 hB (by decide) (by omega)
    have x3 := a3 (by rw [q2, q1, q0]; exact hc)
    exact ⟨fun z => absurd z hc, fun _ => ⟨x3.1, x0.2.tr (x1.2.tr (x2.2.tr x3.2))⟩, m0.tr (m1.tr (m2.tr m3))⟩
/-- gas that leaves -/
theorem leave_eq {G a d : Nat} (hG : G < 2 ^ 29) (ha : a ≤ 50) (hd : d ≤ 9) : (if 0 < ((nI G - nI a) - nI d) then ((nI G - nI a) - nI d) else 0) = nI (G - a - d) ∧ (if (nI a + nI d) ≤ nI G then ((nI G - nI a) - nI d) else 0) = nI (G - a - d) := by
  rw [nI_add]
  by_cases h : a + d ≤ G
  · have e1 : nI G - nI a = nI (G - a) := pk_sub (by omega)
    have e2 : nI (G - a) - nI d = nI (G - a - d) := pk_sub (by omega)
    rw [e1, e2, if_pos (nI_le h (by omega))]
    refine ⟨?_, rfl⟩
    by_cases z : 0 < G - a - d
    · exact if_pos (nI_lt (a := 0) z (by omega))
    · rw [show G - a - d = 0 by omega]
      rfl
  · rw [if_neg (nI_ge (by omega) (by omega)), show G - a - d = 0 by omega]
    refine ⟨?_, rfl⟩
    rw [if_neg]
    · rfl
    · by_cases z : a ≤ G
      · have e1 : nI G - nI a = nI (G - a) := pk_sub z
        rw [e1, Int32.lt_iff_toInt_lt, pk_sub_toInt (by omega) (by omega)]
        have : (0 : Int32).toInt = 0 := rfl
        omega
      · have t1 : (nI G - nI a).toInt = (G : Int) - a := pk_sub_toInt (by omega) (by omega)
        have t2 : ((nI G - nI a) - nI d).toInt = (G : Int) - a - d := by
          rw [Int32.toInt_sub, t1, nI_toInt (by omega)]
          apply Int.bmod_eq_of_le <;> omega
        rw [Int32.lt_iff_toInt_lt, t2]
        have : (0 : Int32).toInt = 0 := rfl
        omega
/-- a tick -/
theorem tick_sim {B t : Nat} {ω μ : Mem} (h : SM B t (56 * t) ω μ) (hB : isS B) (ht : t < 2 ^ 20) : SM B (t + 1) (56 * (t + 1)) (f_X5_passTick B ω) (f_X8_ticks μ) ∧ CF B ω (f_X5_passTick B ω) ∧ MF μ (f_X8_ticks μ) := by
  have hd : f_X5_draft B ω = f_X8_draftAt (μ 121 4) μ := by
    unfold f_X5_draft
    rw [draft_eq h.1, h.1.s4]
  have hdr := draft_rg (t := μ 121 4) h.2.2.2.2.2.1.2
  obtain ⟨f0, f1, m4⟩ := four_sim (d := f_X8_draftAt (μ 121 4) μ) (G := μ 121 5) h hB (by omega)
  have fire : f_X5_allowsFire B ω = if μ 121 3 ≤ μ 121 5 then 0 else 1 := by
    unfold f_X5_allowsFire
    rw [h.1.v3, h.1.s5]
  -- the ends of both
  have ends : ∀ (ω4 μ4 : Mem) (v2 : Int32), SM B t (56 * t + 56) ω4 μ4 → μ4 121 2 = μ 121 2 → SM B (t + 1) (56 * (t + 1)) (f_X5_passTick_68 B (f_X8_draftAt (μ 121 4) μ) v2 ω4) (f_X8_ticks_38 (f_X8_draftAt (μ 121 4) μ) (μ 121 5) μ4) ∧ CF B ω4 (f_X5_passTick_68 B (f_X8_draftAt (μ 121 4) μ) v2 ω4) ∧ MF μ4 (f_X8_ticks_38 (f_X8_draftAt (μ 121 4) μ) (μ 121 5) μ4) := by
    intro ω4 μ4 v2 h4 _
    generalize hD : f_X8_draftAt (μ 121 4) μ = D at *
    have e38 : f_X8_ticks_38 D (μ 121 5) μ4 = f_X8_ticks_77 D (μ 121 5) (st μ4 121 6 (if μ4 121 5 ≤ μ4 121 6 then μ4 121 6 else μ4 121 5)) := by
      unfold f_X8_ticks_38 f_X8_ticks_76
      by_cases q : μ4 121 5 ≤ μ4 121 6
      · rw [if_pos q, if_pos q]
      · rw [if_neg q, if_neg q]
    have e77 : ∀ m : Mem, f_X8_ticks_77 D (μ 121 5) m = st (st m 121 5 (if (m 121 2 + D) ≤ m 121 5 then ((m 121 5 - m 121 2) - D) else 0)) 121 4 ((st m 121 5 (if (m 121 2 + D) ≤ m 121 5 then ((m 121 5 - m 121 2) - D) else 0)) 121 4 + 1) := by
      intro m
      unfold f_X8_ticks_77 f_X8_ticks_118 f_X8_ticks_119
      by_cases q : (m 121 2 + D) ≤ m 121 5
      · rw [if_pos q, if_pos q]
      · rw [if_neg q, if_neg q]
    rw [e38, e77]
    unfold f_X5_passTick_68 f_X5_passTick_83 f_X5_passTick_106
    have mg : (if ω4 B 6 < ω4 B 5 then ω4 B 5 else ω4 B 6) = (if μ4 121 5 ≤ μ4 121 6 then μ4 121 6 else μ4 121 5) := by
      rw [h4.1.s6, h4.1.s5]
      exact max_eq
    rw [mg]
    generalize hM : (if μ4 121 5 ≤ μ4 121 6 then μ4 121 6 else μ4 121 5) = M
    have h6 : SM B t (56 * t + 56) (st ω4 B 6 M) (st μ4 121 6 M) := by
      unfold SM
      rw [row_st]
      refine ⟨h4.1.c (k := 2) (by decide), ?_⟩
      obtain ⟨i0, i2, ⟨i4, i5⟩, i7, ⟨ip, i43⟩, ib⟩ := h4.2
      unfold IV IB
      rw [pk_un (by omega), pk_un (by omega), pk_un (by omega), pk_un (by omega), pk_un (by omega), pk_un (by omega)]
      refine ⟨i0, i2, ⟨i4, i5⟩, i7, ⟨ip, fun j hj => ?_⟩, fun j hj => ?_⟩
      · rw [pk_un (by omega)]; exact i43 j hj
      · rw [pk_un (by omega), pk_un (by omega), pk_un (by omega), pk_un (by omega)]; exact ib j hj
    have c6 : CF B ω4 (st ω4 B 6 M) := CF.s (by omega)
    have m6 : MF μ4 (st μ4 121 6 M) := MF.s (by decide)
    generalize st ω4 B 6 M = ω6 at *
    generalize st μ4 121 6 M = μ6 at *
    rw [h6.1.s5, h6.1.v2]
    obtain ⟨i0, i2, ⟨i4, i5⟩, i7, ⟨ip, i43⟩, ib⟩ := h6.2
    obtain ⟨x, hx, ex⟩ := rg_ex i5
    obtain ⟨a, ha, ea⟩ := rg_ex i2
    obtain ⟨y, hy, ey⟩ := rg_ex hdr
    obtain ⟨l1, l2⟩ := leave_eq (G := x) (a := a) (d := y) (by omega) ha hy
    rw [ex, ea, ey, l1, l2]
    have h5 : SM B t (56 * t + 56) (st ω6 B 5 (nI (x - a - y))) (st μ6 121 5 (nI (x - a - y))) := by
      unfold SM
      rw [row_st]
      refine ⟨h6.1.c (k := 1) (by decide), ?_⟩
      unfold IV IB
      rw [pk_un (by omega), pk_un (by omega), pk_un (by omega), pk_us, pk_un (by omega), pk_un (by omega)]
      refine ⟨i0, i2, ⟨i4, rg_of (by omega) (by omega)⟩, i7, ⟨ip, fun j hj => ?_⟩, fun j hj => ?_⟩
      · rw [pk_un (by omega)]; exact i43 j hj
      · rw [pk_un (by omega), pk_un (by omega), pk_un (by omega), pk_un (by omega)]; exact ib j hj
    have c5 : CF B ω6 (st ω6 B 5 (nI (x - a - y))) := CF.s (by omega)
    have m5 : MF μ6 (st μ6 121 5 (nI (x - a - y))) := MF.s (by decide)
    generalize st ω6 B 5 (nI (x - a - y)) = ω5 at *
    generalize st μ6 121 5 (nI (x - a - y)) = μ5 at *
    rw [h5.1.s4]
    refine ⟨?_, c6.tr (c5.tr (CF.s (by omega))), m6.tr (m5.tr (MF.s (by decide)))⟩
    unfold SM
    rw [row_st]
    refine ⟨h5.1.c (k := 0) (by decide), ?_⟩
    obtain ⟨i0, i2, ⟨i4, i5⟩, i7, ⟨ip, i43⟩, ib⟩ := h5.2
    unfold IV IB
    rw [pk_un (by omega), pk_un (by omega), pk_us, pk_un (by omega), pk_un (by omega), pk_un (by omega)]
    refine ⟨i0, i2, ⟨by rw [i4, nI_1], by rw [show 56 * (t + 1) = 56 * t + 56 by omega]; exact i5⟩, i7, ⟨ip, fun j hj => ?_⟩, fun j hj => ?_⟩
    · rw [pk_un (by omega)]; exact i43 j hj
    · rw [pk_un (by omega), pk_un (by omega), pk_un (by omega), pk_un (by omega)]; exact ib j hj
  unfold f_X5_passTick f_X8_ticks
  rw [fire, hd]
  by_cases hc : μ 121 3 ≤ μ 121 5
  · rw [if_pos hc, if_pos rfl]
    obtain ⟨s4, c4⟩ := f0 hc
    obtain ⟨e1, e2, e3⟩ := ends _ _ 0 s4 (m4.2 2 (by decide))
    exact ⟨e1, c4.tr e2, m4.tr e3⟩
  · rw [if_neg hc, if_neg (by decide)]
    obtain ⟨s4, c4⟩ := f1 hc
    obtain ⟨e1, e2, e3⟩ := ends _ _ 1 s4 (m4.2 2 (by decide))
    exact ⟨e1, c4.tr e2, m4.tr e3⟩
