theorem RS.plan {B : Nat} {ω ω' : Mem} {s s' : Nat → Int32} (h : RS B ω s) (p : PR (B + 8) ω' s') (c : ∀ z, (z < B + 8 ∨ B + 11 ≤ z) → ω' z = ω z) (m : ∀ z, (z < 43 ∨ 68 ≤ z) → s' z = s z) : RS B ω' s' := by
  obtain ⟨h1, h2, h3, ⟨h4, h5, h6⟩, -, h7⟩ := h
  refine ⟨fun k hk => ?_, fun k hk => ?_, fun k hk => ?_, ⟨?_, ?_, fun j hj i hi => ?_⟩, p, fun k hk w hw => ?_⟩
  · rw [c _ (by omega), m _ (by omega)]; exact h1 k hk
  · rw [c _ (by omega), m _ (by omega)]; exact h2 k hk
  · rw [c _ (by omega), m _ (by omega)]; exact h3 k hk
  · rw [c _ (by omega), m _ (by omega)]; exact h4
  · rw [m _ (by omega)]; exact h5
  · rw [m 12 (by omega)] at hj ⊢
    have := h5.2
    rw [c _ (by omega), m _ (by omega)]; exact h6 j hj i hi
  · rw [c _ (by omega), m _ (by omega)]; exact h7 k hk w hw
theorem IV.plan {t g : Nat} {s s' : Nat → Int32} (h : IV t g s) (m : ∀ z, (z < 43 ∨ 68 ≤ z) → s' z = s z) (r : rg (s' 43) 12) (hd : ∀ j, j < (s' 43).toNatClampNeg → rg (s' (44 + 2 * j + 1)) 9) : IV t g s' := by
  obtain ⟨h0, h2, ⟨h4, h5⟩, h7, h43, hb⟩ := h
  unfold IV IB
  rw [m 0 (by omega), m 2 (by omega), m 4 (by omega), m 5 (by omega), m 7 (by omega)]
  refine ⟨h0, h2, ⟨h4, h5⟩, h7, ⟨r.2, hd⟩, fun k hk => ?_⟩
  rw [m _ (by omega), m _ (by omega), m _ (by omega), m _ (by omega)]
  exact hb k hk
theorem LW.dr {ω μ : Mem} (h : LW ω μ) : ∀ j, j < (μ 121 43).toNatClampNeg → rg (μ 121 (44 + 2 * j + 1)) 9 := by
  obtain ⟨t, h1, h2⟩ := h.sm
  exact h2.2.2.2.2.2.1.2
theorem LW.plan {ω μ ω' μ' : Mem} (h : LW ω μ) (p : PR 9 ω' (μ' 121)) (hd : ∀ j, j < (μ' 121 43).toNatClampNeg → rg (μ' 121 (44 + 2 * j + 1)) 9) (c : ∀ z, (z < 9 ∨ 12 ≤ z) → ω' z = ω z) (m : ∀ z, z ≠ 121 → μ' z = μ z) (m1 : ∀ z, (z < 43 ∨ 68 ≤ z) → μ' 121 z = μ 121 z) : LW ω' μ' := by
  obtain ⟨t, h1, h2⟩ := h.sm
  exact h.st1 ⟨t, h1, h2.1.plan p c m1, h2.2.plan m1 p.2.1 hd⟩ (fun z hz => c z (by omega)) m
theorem op_plan {ω μ : Mem} {t d : Int32} (h : LW ω μ) : OPW ω μ (f_X7_plan t d ω) (f_X8_plan t d μ) := by
  refine OPW.th ?_
  have h := h.th
  unfold f_X8_plan f_X7_plan f_X8_plan_5
  generalize st μ 120 0 0 = μ at *
  rw [isW_in (μ := μ), isW_in (μ := μ)]
  by_cases q : f_X8_in t 0 9999 μ = 0
  · rw [if_pos q, if_pos q]; exact OPW.same h
  rw [if_neg q, if_neg q]
  by_cases q1 : f_X8_in d 0 9 μ = 0
  · rw [if_pos q1, if_pos q1]; exact OPW.same h
  rw [if_neg q1, if_neg q1]
  have hd : rg d 9 := in_rg (n := 9) rfl q1
  have hp : PR 9 ω (μ 121) := h.rs.pr
  have hr := h.rec
  have hpr : PR 9 (f_X1_record 1 ω) ((f_X8_records μ) 121) := hr.rs.pr
  obtain ⟨n, hn⟩ : ∃ n, (μ 121 43).toNatClampNeg = n := ⟨_, rfl⟩
  have hn12 : n ≤ 12 := by have := hp.2.1.2; omega
  have e43 : μ 121 43 = nI n := by have := hp.2.1.1; rw [hn] at this; exact this
  have e2 : ω 9 2 = nI n := hp.1.trans e43
  have lay : f_X3_hasRoomFor 9 t ω = 1 → (f_X3_put 9 t d (f_X1_record 1 ω)).1 = 1 → PUT 9 t d (f_X1_record 1 ω) (f_X8_records μ) → OPW ω μ ((f_X3_put 9 t d (f_X1_record 1 ω)).2 9 2, (f_X3_put 9 t d (f_X1_record 1 ω)).2) (f_X8_plan_82 t d μ) := by
    intro _ _ ⟨u1, u2, u3, u4, _, _, _, u8⟩
    unfold f_X8_plan_82
    have hl := hr.plan u1 (u8 hd hr.dr) u2 u3 u4
    refine ⟨?_, hl, fun z hz => (u2 z (by omega)).trans (rec_hi h z hz), fun z hz => (u3 z (by omega)).trans (recs_lo μ z hz)⟩
    exact u1.1
  have sim := put_sim (t := t) (d := d) hp
  have sim2 := put_sim (t := t) (d := d) hpr
  rw [records_121] at sim2
  rcases place_eq (t := t) hp hn with ⟨m, m1, m2, m3, m4⟩ | ⟨m2, m3, m4⟩
  · have hin : inP (μ 121) t := ⟨m, by omega, m4⟩
    rcases sim with ⟨_, b, _⟩ | ⟨_, a2, _⟩
    · exact absurd hin b
    rcases sim2 with ⟨_, b, _⟩ | ⟨_, _, b3, b4⟩
    · exact absurd hin b
    have k1 : ¬ nI m = -5 := fun e => absurd (congrArg Int32.toInt e) (by rw [nI_toInt (by omega)]; have : Int32.toInt (-5) = -5 := rfl; omega)
    have eh : f_X3_holds 9 t d ω = if μ 121 (44 + 2 * m + 1) = d then 1 else 0 := by
      unfold f_X3_holds
      rw [e2, m2, if_neg (nI_ge m1 (by omega)), elA (by omega) (by decide)]
      rw [show ω (9 + 2) m = μ 121 (44 + 2 * m + 1) from hp.2.2 m (by omega) 1 (by decide)]
    rw [a2, if_neg (by decide : ¬ (1 : Int32) = 0), eh, m3, if_neg k1, nI_clamp (by omega)]
    by_cases q2 : μ 121 (44 + 2 * m + 1) = d
    · rw [if_pos q2, if_pos q2, if_neg (by decide : ¬ (1 : Int32) = 0)]
      exact OPW.same h
    · rw [if_neg q2, if_neg q2, if_pos rfl]
      exact lay a2 b3 b4
  · have nin : ¬ inP (μ 121) t := fun ⟨j, a, b⟩ => m4 j (by omega) b
    rw [m3, if_pos rfl]
    rcases sim with ⟨a1, _, _, a2, _⟩ | ⟨a0, a2, _⟩
    · rw [a2, if_pos rfl, if_pos a1]
      exact OPW.same h
    have hn11 : n ≤ 11 := by
      rcases a0 with a | a
      · exact absurd a nin
      · omega
    have a1 : ¬ μ 121 43 = 12 := by
      rw [e43]
      exact fun e => by have := (nI_eq (a := n) (b := 12) (by omega) (by decide)).1 e; omega
    rcases sim2 with ⟨b, _⟩ | ⟨_, _, b3, b4⟩
    · exact absurd b a1
    have eh : f_X3_holds 9 t d ω = 0 := by
      unfold f_X3_holds
      rw [e2, m2, if_pos (nI_le (Nat.le_refl n) (by omega))]
    rw [a2, if_neg (by decide : ¬ (1 : Int32) = 0), eh, if_pos rfl, if_neg a1]
    exact lay a2 b3 b4
