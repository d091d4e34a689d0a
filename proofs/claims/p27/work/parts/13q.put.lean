theorem p108 {t d : Int32} {x : Nat} {μ : Mem} : (f_X8_plans_108 t d x μ) 121 = upd (upd (μ 121) (44 + 2 * x) t) (44 + 2 * x + 1) d := by
  unfold f_X8_plans_108
  rw [row_st, row_st]
theorem p108f {t d : Int32} {x z : Nat} {μ : Mem} (hz : z ≠ 121) : (f_X8_plans_108 t d x μ) z = μ z := by
  unfold f_X8_plans_108
  rw [st_nei (fun e => hz e.symm), st_nei (fun e => hz e.symm)]
theorem p108n {t d : Int32} {x z : Nat} {μ : Mem} (h : z ≠ 44 + 2 * x) (h1 : z ≠ 44 + 2 * x + 1) : (f_X8_plans_108 t d x μ) 121 z = μ 121 z := by
  rw [p108, pk_un h1, pk_un h]
theorem p108t {t d : Int32} {x : Nat} {μ : Mem} : (f_X8_plans_108 t d x μ) 121 (44 + 2 * x) = t := by
  rw [p108, pk_un (by omega), pk_us]
theorem p108d {t d : Int32} {x : Nat} {μ : Mem} : (f_X8_plans_108 t d x μ) 121 (44 + 2 * x + 1) = d := by
  rw [p108, pk_us]
/-- what one entry laid does on both sides -/
def PUT (i : Nat) (t d : Int32) (ω μ : Mem) : Prop :=
  PR i (f_X3_put i t d ω).2 ((f_X8_plans t d μ) 121) ∧ (∀ z, (z < i ∨ i + 3 ≤ z) → (f_X3_put i t d ω).2 z = ω z) ∧ (∀ z, z ≠ 121 → (f_X8_plans t d μ) z = μ z) ∧ (∀ z, (z < 43 ∨ 68 ≤ z) → (f_X8_plans t d μ) 121 z = μ 121 z) ∧
  (inP (μ 121) t → (f_X8_plans t d μ) 121 43 = μ 121 43) ∧ (¬ inP (μ 121) t → ((f_X8_plans t d μ) 121 43).toNatClampNeg = (μ 121 43).toNatClampNeg + 1) ∧ (∀ x, inP ((f_X8_plans t d μ) 121) x ↔ (x = t ∨ inP (μ 121) x)) ∧
  (rg d 9 → (∀ j, j < (μ 121 43).toNatClampNeg → rg (μ 121 (44 + 2 * j + 1)) 9) → ∀ j, j < ((f_X8_plans t d μ) 121 43).toNatClampNeg → rg ((f_X8_plans t d μ) 121 (44 + 2 * j + 1)) 9)
theorem put_sim {i : Nat} {t d : Int32} {ω μ : Mem} (h : PR i ω (μ 121)) :
    ((μ 121 43 = 12 ∧ ¬ inP (μ 121) t ∧ f_X8_entryAt t μ = -5 ∧ f_X3_hasRoomFor i t ω = 0 ∧ f_X3_put i t d ω = (0, ω)) ∨
    ((inP (μ 121) t ∨ (μ 121 43).toNatClampNeg ≤ 11) ∧ f_X3_hasRoomFor i t ω = 1 ∧ (f_X3_put i t d ω).1 = 1 ∧ PUT i t d ω μ)) := by
  obtain ⟨n, hn⟩ : ∃ n, (μ 121 43).toNatClampNeg = n := ⟨_, rfl⟩
  have hn12 : n ≤ 12 := by have := h.2.1.2; omega
  have e43 : μ 121 43 = nI n := by have := h.2.1.1; rw [hn] at this; exact this
  have e2 : ω i 2 = nI n := h.1.trans e43
  have h3 := h.2.2
  rw [hn] at h3
  rcases place_eq (t := t) h hn with ⟨m, m1, m2, m3, m4⟩ | ⟨m2, m3, m4⟩
  · refine Or.inr ⟨Or.inl ⟨m, by omega, m4⟩, ?_⟩
    have hr : f_X3_hasRoomFor i t ω = 1 := by
      unfold f_X3_hasRoomFor
      rw [e2, m2, if_neg (nI_ge m1 (by omega))]
      by_cases q : nI n < 12
      · rw [if_pos q]
      · rw [if_neg q]
    have hne : ¬ nI m = nI n := fun e => by have := (nI_eq (by omega) (by omega)).1 e; omega
    have hp : f_X3_put i t d ω = (1, st (st ω (i + 1) m t) (i + 2) m d) := by
      unfold f_X3_put
      have q1 : ¬ nI m < 0 := nI_pos (by omega)
      have q2 : ¬ 12 ≤ nI m := nI_ge (b := 12) (a := m) (by omega) (by decide)
      rw [hr, if_neg (by decide : ¬ (1 : Int32) = 0), m2, e2, if_neg hne, if_neg q1, if_neg q2, nI_clamp (by omega)]
    have hm : f_X8_plans t d μ = f_X8_plans_108 t d m μ := by
      unfold f_X8_plans
      have q1 : ¬ nI m = -5 := fun e => absurd (congrArg Int32.toInt e) (by rw [nI_toInt (by omega)]; have : Int32.toInt (-5) = -5 := rfl; omega)
      rw [m3, if_neg q1, nI_clamp (by omega)]
    have ep : (f_X8_plans_108 t d m μ) 121 43 = μ 121 43 := p108n (by omega) (by omega)
    have hin : inP (μ 121) t := ⟨m, by omega, m4⟩
    refine ⟨hr, by rw [hp], ?_⟩
    unfold PUT
    rw [hp, hm]
    refine ⟨plan_put hn12 m1 e2 e43 (fun j x1 x2 q x3 => h3 j x1 q x3), fun z hz => ?_, fun z hz => p108f hz, fun z hz => p108n (by omega) (by omega), fun _ => ep, fun q => absurd hin q, fun x => ?_, fun hd hj j hj2 => ?_⟩
    · dsimp only
      rw [st_nei (by omega), st_nei (by omega)]
    · unfold inP
      rw [ep, hn]
      constructor
      · rintro ⟨j, a, b⟩
        by_cases z : j = m
        · rw [z, p108t] at b
          exact Or.inl b.symm
        · rw [p108n (by omega) (by omega)] at b
          exact Or.inr ⟨j, a, b⟩
      · rintro (a | ⟨j, a, b⟩)
        · exact ⟨m, m1, by rw [p108t, a]⟩
        · by_cases z : j = m
          · refine ⟨m, m1, ?_⟩
            rw [p108t, ← m4, ← z, b]
          · refine ⟨j, a, ?_⟩
            rw [p108n (by omega) (by omega)]
            exact b
    · rw [ep, hn] at hj2
      by_cases z : j = m
      · rw [z, p108d]; exact hd
      · rw [p108n (by omega) (by omega)]
        exact hj j (by omega)
  · have nin : ¬ inP (μ 121) t := fun ⟨j, a, b⟩ => m4 j (by omega) b
    by_cases q12 : n = 12
    · refine Or.inl ⟨by rw [e43, q12]; rfl, nin, m3, ?_⟩
      have hr : f_X3_hasRoomFor i t ω = 0 := by
        unfold f_X3_hasRoomFor
        rw [e2, m2, q12]
        have q1 : ¬ nI 12 < 12 := by decide
        rw [if_neg q1, if_pos (nI_le (Nat.le_refl 12) (by decide))]
      refine ⟨hr, ?_⟩
      unfold f_X3_put
      rw [hr, if_pos rfl]
    · refine Or.inr ⟨Or.inr (by omega), ?_⟩
      have hr : f_X3_hasRoomFor i t ω = 1 := by
        unfold f_X3_hasRoomFor
        have q1 : nI n < 12 := nI_lt (b := 12) (by omega) (by decide)
        rw [e2, if_pos q1]
      obtain ⟨y, ω', μ', r1, r2, r3, r4, r5, r6, r7, r8, r9, r10, r11⟩ := make_lp (i := i) (n := n) (t := t) (d := d) (by omega) 13 n ω μ (by omega) (Nat.le_refl n) e2 e43 (fun j x1 x2 q x3 => h3 j (by omega) q x3)
      have hp : f_X3_put i t d ω = (1, st (st ω' (i + 1) y t) (i + 2) y d) := by
        unfold f_X3_put f_X3_makePlaceFor
        have q1 : ¬ nI y < 0 := nI_pos (by omega)
        have q2 : ¬ 12 ≤ nI y := nI_ge (b := 12) (a := y) (by omega) (by decide)
        rw [hr, if_neg (by decide : ¬ (1 : Int32) = 0), m2, e2, if_pos rfl, r2, if_neg q1, if_neg q2, nI_clamp (by omega)]
      have hm : f_X8_plans t d μ = f_X8_plans_108 t d y μ' := by
        unfold f_X8_plans
        rw [m3, if_pos rfl, hn]
        exact r3
      have ep : (f_X8_plans_108 t d y μ') 121 43 = nI (n + 1) := (p108n (by omega) (by omega)).trans r5
      refine ⟨hr, by rw [hp], ?_⟩
      unfold PUT
      rw [hp, hm]
      refine ⟨plan_put (n := n + 1) (by omega) (by omega) r4 r5 r6, fun z hz => ?_, fun z hz => (p108f hz).trans (r8 z hz), fun z hz => (p108n (by omega) (by omega)).trans (r9 z hz), fun q => absurd q nin, fun _ => by rw [ep, hn, nI_clamp (by omega)], fun x => ?_, fun hd hj j hj2 => ?_⟩
      · dsimp only
        rw [st_nei (by omega), st_nei (by omega)]
        exact r7 z hz
      · unfold inP
        rw [ep, hn, nI_clamp (by omega)]
        constructor
        · rintro ⟨j, a, b⟩
          by_cases z : j = y
          · rw [z, p108t] at b
            exact Or.inl b.symm
          · rw [p108n (by omega) (by omega)] at b
            obtain ⟨j2, x1, x2, x3⟩ := r10 j a z
            exact Or.inr ⟨j2, by omega, (x3 0 (by decide)).symm.trans b⟩
        · rintro (a | ⟨j, a, b⟩)
          · exact ⟨y, by omega, by rw [p108t, a]⟩
          · obtain ⟨j2, x1, x2, x3⟩ := r11 j (by omega) (by omega)
            refine ⟨j2, x1, ?_⟩
            rw [p108n (by omega) (by omega)]
            exact (x3 0 (by decide)).trans b
      · rw [ep, nI_clamp (by omega)] at hj2
        by_cases z : j = y
        · rw [z, p108d]; exact hd
        · rw [p108n (by omega) (by omega)]
          obtain ⟨j2, x1, x2, x3⟩ := r10 j hj2 z
          rw [x3 1 (by decide)]
          exact hj j2 (by omega)
