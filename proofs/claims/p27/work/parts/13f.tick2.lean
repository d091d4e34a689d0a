theorem cooled0 {k : Int32} {μ : Mem} : f_X8_cooled k 0 0 μ = 0 := by
  obtain ⟨c, -, -, -, e⟩ := cooled_nat k 0 (by decide) μ
  have e2 : f_X8_cooled k 0 0 μ = nI (0 - 0 / c - 1) := e
  rw [e2, show 0 - 0 / c - 1 = 0 by simp]
  rfl
theorem cooled_rg {k v : Int32} {μ : Mem} (h : rg v 900) : rg (f_X8_cooled k v 0 μ) 900 := by
  by_cases h0 : 0 < v.toNatClampNeg
  · exact (cooled_lt h h0).1
  · have e : v = 0 := by
      rw [h.1, show v.toNatClampNeg = 0 by omega]
      rfl
    rw [e, cooled0]
    exact rg_of (j := 0) (by decide) (by decide)
theorem byFlame0 {k v : Int32} {μ : Mem} (h : rg v 900) : f_X8_byFlame k v 0 μ = f_X8_cooled k v 0 μ := by
  have h2 := h.2
  unfold f_X8_byFlame
  rw [if_pos (by rw [h.1]; exact nI_pos' (by omega))]
  by_cases h0 : v ≤ 0
  · have e : v = 0 := by
      have : v.toNatClampNeg ≤ 0 := by
        rw [h.1] at h0
        exact (nI_leI (b := 0) (by omega) (by decide)).mp h0
      rw [h.1, show v.toNatClampNeg = 0 by omega]
      rfl
    rw [if_pos h0, e, cooled0]
  · rw [if_neg h0]
theorem byFlame_rg {k v tap : Int32} {μ : Mem} (h : rg v 900) : rg (f_X8_byFlame k v (f_X8_heat k tap μ) μ) 900 := by
  have h2 := h.2
  obtain ⟨g, g1, g2, e⟩ := heat_v k tap μ
  rw [e]
  unfold f_X8_byFlame
  by_cases a : nI g ≤ v
  · rw [if_pos a]
    by_cases b : v ≤ nI g
    · rw [if_pos b]; exact h
    · rw [if_neg b]
      unfold f_X8_cooled
      by_cases q : nI g ≤ ((v - (v / (f_X8_choose k 10 14 20 μ))) - 1)
      · rw [if_pos q]
        obtain ⟨j, hj, ej⟩ := rg_ex h
        have hc : ∃ c : Nat, 1 < c ∧ c < 100 ∧ f_X8_choose k 10 14 20 μ = nI c := by
          rcases choose_v k 10 14 20 μ with z | z | z
          · exact ⟨10, by decide, by decide, z⟩
          · exact ⟨14, by decide, by decide, z⟩
          · exact ⟨20, by decide, by decide, z⟩
        obtain ⟨c, c1, c2, ec⟩ := hc
        rw [ej, ec] at q ⊢
        rw [pk_div (by omega) (by omega) (by omega)] at q ⊢
        have hd : j / c ≤ j := Nat.div_le_self _ _
        generalize j / c = d at hd q ⊢
        rw [pk_sub hd] at q ⊢
        by_cases z : j - d = 0
        · rw [z] at q
          have q2 : nI g ≤ nI 0 - 1 := q
          rw [Int32.le_iff_toInt_le, nI_toInt (by omega)] at q2
          have : (nI 0 - 1).toInt = -1 := by decide
          omega
        · have e1 : nI (j - d) - 1 = nI (j - d - 1) := pk_sub (a := j - d) (b := 1) (by omega)
          rw [e1]
          exact rg_of (by omega) (by decide)
      · rw [if_neg q]; exact rg_of (by omega) (by decide)
  · rw [if_neg a]
    have hlt : v.toNatClampNeg < g := by
      rcases Nat.lt_or_ge v.toNatClampNeg g with z | z
      · exact z
      · exact absurd (by rw [h.1]; exact nI_le z (by omega)) a
    obtain ⟨c, -, -, -, e2⟩ := warmed_nat k v.toNatClampNeg g hlt (by omega) μ
    rw [← h.1] at e2
    rw [e2]
    exact rg_of (by omega) (by decide)
theorem tap12 {x : Int32} (h : rg x 2) (hn : ¬ x = 0) : x = 1 ∨ x = 2 := by
  rcases rg2 h with q | q | q
  · exact absurd q hn
  · exact Or.inl q
  · exact Or.inr q
/-- warming or cooling on both sides -/
theorem warm_sim {B t g k : Nat} {ω μ : Mem} (h : SM B t g ω μ) (hk : k < 4) : SM B t g (f_X0_warmOrCool (B + 4 + k) ω) (f_X8_lay k 5 (if f_X8_get k 4 μ = 1 then f_X8_byFlame (f_X8_get k 0 μ) (f_X8_get k 5 μ) (f_X8_heat (f_X8_get k 0 μ) (f_X8_get k 1 μ) μ) μ else f_X8_cooled (f_X8_get k 0 μ) (f_X8_get k 5 μ) 0 μ) μ) := by
  have hI := h.ib hk
  have hb4 := h.1.b4 hk
  have c01 := bb01 (ω (B + 4 + k) 4)
  have cv5 : ∀ x, cv 5 x = x := fun x => if_neg (by decide)
  unfold f_X0_warmOrCool f_X8_get
  rw [hb4] at c01 ⊢
  rcases c01 with z | z
  · have z' : ¬ μ 121 (68 + 10 * k + 4) = 1 := by rw [z]; decide
    rw [if_pos z, if_neg z']
    refine h.lay hk (by decide) ?_ (hI.f5 (cooled_rg hI.2.2.2))
    rw [cv5, temp_eq h.1 hk hI, h.1.b5 hk, byFlame0 hI.2.2.2]
  · have z' : μ 121 (68 + 10 * k + 4) = 1 := z
    have z0 : ¬ μ 121 (68 + 10 * k + 4) = 0 := by rw [z]; decide
    rw [if_neg z0, if_pos z']
    have tap : ¬ μ 121 (68 + 10 * k + 1) = 0 := hI.2.2.1.resolve_left z0
    refine h.lay hk (by decide) ?_ (hI.f5 (byFlame_rg hI.2.2.2))
    rw [cv5, temp_eq h.1 hk hI, h.1.b5 hk, h.1.b1 hk, heat_eq h.1 hk hI (tap12 hI.2.1 tap)]
theorem CF.warm {B k : Nat} {ω : Mem} (hk : k < 4) : CF B ω (f_X0_warmOrCool (B + 4 + k) ω) := by
  unfold f_X0_warmOrCool
  split
  · exact CF.s (by omega)
  · exact CF.s (by omega)
/-- the third step: a joint warms or cools, a valve drops -/
theorem step3 {B t g k : Nat} {ω μ : Mem} {d G : Int32} (h : SM B t g ω μ) (hk : k < 4) : ∃ (μ1 : Mem) (v4 v6 : Int32), f_X8_burns_100 k d G μ = f_X8_burns_194 k d G v4 (f_X8_get k 0 μ1) v6 μ1 ∧ SM B t g (f_X5_warmOrDrop B (nI k) (B + 4 + k) ω) μ1 ∧ CF B ω (f_X5_warmOrDrop B (nI k) (B + 4 + k) ω) ∧ MF μ μ1 := by
  have hw := warm_sim h hk
  have ho := open_eq h.1 hk (h.ib hk)
  have cw : CF B ω (f_X0_warmOrCool (B + 4 + k) ω) := CF.warm hk
  have e100 : f_X8_burns_100 k d G μ = f_X8_burns_168 k d G (f_X8_isOpen k μ) (f_X8_get k 0 μ) (f_X8_get k 5 μ) (f_X8_lay k 5 (if f_X8_get k 4 μ = 1 then f_X8_byFlame (f_X8_get k 0 μ) (f_X8_get k 5 μ) (f_X8_heat (f_X8_get k 0 μ) (f_X8_get k 1 μ) μ) μ else f_X8_cooled (f_X8_get k 0 μ) (f_X8_get k 5 μ) 0 μ) μ) := by
    unfold f_X8_burns_100
    by_cases q : f_X8_get k 4 μ = 1
    · rw [if_pos q, if_pos q]; rfl
    · rw [if_neg q, if_neg q]; rfl
  rw [e100]
  generalize hv : (if f_X8_get k 4 μ = 1 then f_X8_byFlame (f_X8_get k 0 μ) (f_X8_get k 5 μ) (f_X8_heat (f_X8_get k 0 μ) (f_X8_get k 1 μ) μ) μ else f_X8_cooled (f_X8_get k 0 μ) (f_X8_get k 5 μ) 0 μ) = v at *
  have k0 : f_X8_get k 0 μ = f_X8_get k 0 (f_X8_lay k 5 v μ) := (get_layo (by decide)).symm
  have mw : MF μ (f_X8_lay k 5 v μ) := MF.lay
  have how := open_eq hw.1 hk (hw.ib hk)
  unfold f_X5_warmOrDrop f_X8_burns_168
  rw [ho, how]
  by_cases a : f_X8_isOpen k μ = 0
  · rw [if_pos a, if_pos a]
    exact ⟨_, _, _, by rw [← k0], hw, cw, mw⟩
  · rw [if_neg a, if_neg a]
    by_cases b : f_X8_isOpen k (f_X8_lay k 5 v μ) = 0
    · rw [if_pos b, if_pos b]
      have h4 := hw.lay (w := 4) (v := 0) (v' := 0) hk (by decide) (by decide) ((hw.ib hk).f4 (Or.inl rfl))
      have mt := MF.tells (ev := 2) (b := nI k) h4.n12 (by decide)
      refine ⟨_, f_X8_isOpen k μ, f_X8_get k 5 μ, ?_, h4.tells (by decide), cw.tr ((CF.s (by omega)).tr (CF.note (by decide))), mw.tr (MF.lay.tr mt)⟩
      have e : f_X8_get k 0 (f_X8_tells 2 (nI k) (f_X8_lay k 4 0 (f_X8_lay k 5 v μ))) = f_X8_get k 0 μ := by
        unfold f_X8_get
        rw [(tells_row 2 (nI k) _ h4.n12 (by decide)).1, noteS_low (by decide) h4.n12 (by omega), lay_row, pk_un (by omega)]
        exact k0.symm
      rw [e]
    · rw [if_neg b, if_neg b]
      exact ⟨_, _, _, by rw [← k0], hw, cw, mw⟩
theorem max_eq {x y : Int32} : (if x < y then y else x) = (if y ≤ x then x else y) := by
  by_cases h : x < y
  · rw [if_pos h, if_neg (nle_of_lt h)]
  · rw [if_neg h, if_pos]
    rw [Int32.lt_iff_toInt_lt] at h
    rw [Int32.le_iff_toInt_le]
    omega
/-- how the flow's numbers are laid by the model -/
theorem burns216 (k : Nat) (d G v4 v5 v6 w : Int32) (μ : Mem) : f_X8_burns_216 k d G v4 v5 v6 w μ = (let fl : Int32 := if w = 0 then 0 else f_X8_flow v5 (f_X8_get k 1 μ) μ; let μ5 := st μ 121 5 (μ 121 5 + fl); let μ9 := f_X8_lay k 9 (f_X8_get k 9 μ5 + fl) μ5; let μ8 := f_X8_lay k 8 (if w = 0 then 0 else f_X8_get k 8 μ9 + 1) μ9; st μ8 121 7 (if f_X8_get k 8 μ8 ≤ μ8 121 7 then μ8 121 7 else f_X8_get k 8 μ8)) := by
  have e293 : ∀ (v7 v8 : Int32) (m : Mem), f_X8_burns_293 k d G v4 v5 v6 v7 v8 m = st m 121 7 (if f_X8_get k 8 m ≤ m 121 7 then m 121 7 else f_X8_get k 8 m) := by
    intro v7 v8 m
    unfold f_X8_burns_293 f_X8_burns_333
    by_cases q : f_X8_get k 8 m ≤ m 121 7
    · rw [if_pos q, if_pos q]
    · rw [if_neg q, if_neg q]
  have e238 : ∀ (v7 fl : Int32) (m : Mem), f_X8_burns_238 k d G v4 v5 v6 v7 fl m = (let μ5 := st m 121 5 (m 121 5 + fl); let μ9 := f_X8_lay k 9 (f_X8_get k 9 μ5 + fl) μ5; let μ8 := f_X8_lay k 8 (if v7 = 0 then 0 else f_X8_get k 8 μ9 + 1) μ9; st μ8 121 7 (if f_X8_get k 8 μ8 ≤ μ8 121 7 then μ8 121 7 else f_X8_get k 8 μ8)) := by
    intro v7 fl m
    unfold f_X8_burns_238 f_X8_burns_251 f_X8_burns_268 f_X8_burns_290
    simp only [e293]
    by_cases q : v7 = 0
    · rw [if_pos q, if_pos q]
    · rw [if_neg q, if_neg q]
  unfold f_X8_burns_216
  by_cases q : w = 0
  · rw [if_pos q, e238]
    simp only [if_pos q]
  · rw [if_neg q, e238]
    simp only [if_neg q]
/-- the fourth step: gas flows unburnt, or the dark ticks end -/
theorem step4 {B t g k : Nat} {ω μ : Mem} {d G v4 v6 : Int32} (h : SM B t g ω μ) (hk : k < 4) (hg : g < 2 ^ 29) : SM B t (g + 14) (f_X5_flow B (B + 4 + k) ω) (f_X8_burns_194 k d G v4 (f_X8_get k 0 μ) v6 μ) ∧ CF B ω (f_X5_flow B (B + 4 + k) ω) ∧ MF μ (f_X8_burns_194 k d G v4 (f_X8_get k 0 μ) v6 μ) := by
  have hI := h.ib hk
  have ho := open_eq h.1 hk hI
  have hb4 := h.1.b4 hk
  have c01 := bb01 (ω (B + 4 + k) 4)
  have hmono : ∀ s, IV t g s → IV t (g + 14) s := fun s z => ⟨z.1, z.2.1, ⟨z.2.2.1.1, rg_mono z.2.2.1.2 (by omega)⟩, z.2.2.2⟩
  -- not dark
  have nd : ∀ w : Int32, w = 0 → SM B t (g + 14) (st ω (B + 4 + k) 8 0) (f_X8_burns_216 k d G v4 (f_X8_get k 0 μ) v6 w μ) ∧ MF μ (f_X8_burns_216 k d G v4 (f_X8_get k 0 μ) v6 w μ) := by
    intro w hw
    rw [burns216]
    simp only [if_pos hw, Int32.add_zero]
    have e5 : st μ 121 5 (μ 121 5) = μ := by
      unfold st va_up upd
      funext i j
      by_cases hi : i = 121
      · rw [if_pos hi, hi]
        by_cases hj : j = 5
        · rw [if_pos hj, hj]
        · rw [if_neg hj]
      · rw [if_neg hi]
    have e9 : f_X8_lay k 9 (f_X8_get k 9 μ) μ = μ := by
      unfold f_X8_lay f_X8_get st va_up upd
      funext i j
      by_cases hi : i = 121
      · rw [if_pos hi, hi]
        by_cases hj : j = 68 + 10 * k + 9
        · rw [if_pos hj, hj]
        · rw [if_neg hj]
      · rw [if_neg hi]
    rw [e5, e9, get_lay]
    have h8 := h.lay (w := 8) (v := 0) (v' := 0) hk (by decide) (by decide) (hI.fo (by omega) (by decide))
    have p7 : (f_X8_lay k 8 0 μ) 121 7 = μ 121 7 := by rw [lay_row, pk_un (by omega)]
    have h7 := h.2.2.2.2.1
    rw [if_pos (by rw [p7, Int32.le_iff_toInt_le]; exact h7)]
    have e7 : st (f_X8_lay k 8 0 μ) 121 7 ((f_X8_lay k 8 0 μ) 121 7) = f_X8_lay k 8 0 μ := by
      generalize f_X8_lay k 8 0 μ = m
      unfold st va_up upd
      funext i j
      by_cases hi : i = 121
      · rw [if_pos hi, hi]
        by_cases hj : j = 7
        · rw [if_pos hj, hj]
        · rw [if_neg hj]
      · rw [if_neg hi]
    rw [e7]
    exact ⟨⟨h8.1, hmono _ h8.2⟩, MF.lay⟩
  unfold f_X5_flow f_X5_flowsUnburnt f_X8_burns_194
  rw [ho]
  by_cases a : f_X8_isOpen k μ = 0
  · rw [if_pos a, if_pos a, if_pos rfl]
    obtain ⟨n1, n2⟩ := nd 0 rfl
    exact ⟨n1, CF.s (by omega), n2⟩
  · rw [if_neg a, if_neg a]
    have tap : ¬ μ 121 (68 + 10 * k + 1) = 0 := by
      rcases open01 k μ with z | z
      · exact absurd z a
      · exact z.2
    rw [hb4] at c01 ⊢
    by_cases z : μ 121 (68 + 10 * k + 4) = 0
    · have z' : f_X8_get k 4 μ = 0 := z
      rw [if_pos z, if_pos z', if_neg (by decide)]
      rw [burns216]
      simp only [if_neg (by decide : ¬ (1 : Int32) = 0)]
      have hfl := flow_eq h.1 hk hI tap
      have hfr := flow_rg (k := μ 121 (68 + 10 * k + 0)) (t := μ 121 (68 + 10 * k + 1)) (μ := μ)
      have gg : f_X8_flow (f_X8_get k 0 μ) (f_X8_get k 1 μ) μ = f_X8_flow (μ 121 (68 + 10 * k + 0)) (μ 121 (68 + 10 * k + 1)) μ := rfl
      rw [gg, hfl, h.1.s5]
      generalize hF : f_X8_flow (μ 121 (68 + 10 * k + 0)) (μ 121 (68 + 10 * k + 1)) μ = F at *
      have hgas := h.2.2.2.1.2
      -- gas
      have h5 : SM B t (g + 14) (st ω B 5 (μ 121 5 + F)) (st μ 121 5 (μ 121 5 + F)) := by
        unfold SM
        rw [row_st]
        refine ⟨h.1.c (k := 1) (by decide), ?_⟩
        obtain ⟨i0, i2, ⟨i4, i5⟩, i7, ⟨ip, i43⟩, ib⟩ := h.2
        unfold IV IB
        rw [pk_un (by omega), pk_un (by omega), pk_un (by omega), pk_us, pk_un (by omega), pk_un (by omega)]
        refine ⟨i0, i2, ⟨i4, ?_⟩, i7, ⟨ip, fun j hj => ?_⟩, fun j hj => ?_⟩
        · obtain ⟨x, hx, ex⟩ := rg_ex i5
          obtain ⟨y, hy, ey⟩ := rg_ex hfr
          rw [ex, ey, nI_add]
          exact rg_of (by omega) (by omega)
        · rw [pk_un (by omega)]; exact i43 j hj
        · rw [pk_un (by omega), pk_un (by omega), pk_un (by omega), pk_un (by omega)]; exact ib j hj
      have m5 : MF μ (st μ 121 5 (μ 121 5 + F)) := MF.s (by decide)
      have c5 : CF B ω (st ω B 5 (μ 121 5 + F)) := CF.s (by omega)
      unfold f_X5_flow_27 f_X5_flow_40 f_X5_flow_50
      have hfl5 : f_X0_flow (B + 4 + k) (st ω B 5 (μ 121 5 + F)) = F := by
        rw [← hfl]
        unfold f_X0_flow f_X0_told f_X7_elementAtT
        rw [st_nei (by omega)]
      rw [hfl5]
      generalize st ω B 5 (μ 121 5 + F) = ω5 at *
      generalize st μ 121 5 (μ 121 5 + F) = μ5 at *
      rw [h5.1.b9 hk]
      have h9 := h5.lay (w := 9) (v := μ5 121 (68 + 10 * k + 9) + F) (v' := μ5 121 (68 + 10 * k + 9) + F) hk (by decide) rfl ((h5.ib hk).fo (by omega) (by decide))
      have m9 : MF μ5 (f_X8_lay k 9 (μ5 121 (68 + 10 * k + 9) + F) μ5) := MF.lay
      have c9 : CF B ω5 (st ω5 (B + 4 + k) 9 (μ5 121 (68 + 10 * k + 9) + F)) := CF.s (by omega)
      have g9 : f_X8_lay k 9 (f_X8_get k 9 μ5 + F) μ5 = f_X8_lay k 9 (μ5 121 (68 + 10 * k + 9) + F) μ5 := rfl
      rw [g9]
      generalize st ω5 (B + 4 + k) 9 (μ5 121 (68 + 10 * k + 9) + F) = ω9 at *
      generalize f_X8_lay k 9 (μ5 121 (68 + 10 * k + 9) + F) μ5 = μ9 at *
      rw [h9.1.b8 hk]
      have h8 := h9.lay (w := 8) (v := μ9 121 (68 + 10 * k + 8) + 1) (v' := μ9 121 (68 + 10 * k + 8) + 1) hk (by decide) rfl ((h9.ib hk).fo (by omega) (by decide))
      have m8 : MF μ9 (f_X8_lay k 8 (μ9 121 (68 + 10 * k + 8) + 1) μ9) := MF.lay
      have c8 : CF B ω9 (st ω9 (B + 4 + k) 8 (μ9 121 (68 + 10 * k + 8) + 1)) := CF.s (by omega)
      have g8 : f_X8_lay k 8 (f_X8_get k 8 μ9 + 1) μ9 = f_X8_lay k 8 (μ9 121 (68 + 10 * k + 8) + 1) μ9 := rfl
      rw [g8]
      generalize st ω9 (B + 4 + k) 8 (μ9 121 (68 + 10 * k + 8) + 1) = ω8 at *
      generalize f_X8_lay k 8 (μ9 121 (68 + 10 * k + 8) + 1) μ9 = μ8 at *
      rw [max_eq, h8.1.s7, h8.1.b8 hk]
      refine ⟨?_, c5.tr (c9.tr (c8.tr (CF.s (by omega)))), m5.tr (m9.tr (m8.tr (MF.s (by decide))))⟩
      unfold SM
      rw [row_st]
      refine ⟨h8.1.c (k := 3) (by decide), ?_⟩
      obtain ⟨i0, i2, ⟨i4, i5⟩, i7, ⟨ip, i43⟩, ib⟩ := h8.2
      unfold IV IB
      rw [pk_un (by omega), pk_un (by omega), pk_un (by omega), pk_un (by omega), pk_us, pk_un (by omega)]
      refine ⟨i0, i2, ⟨i4, i5⟩, ?_, ⟨ip, fun j hj => ?_⟩, fun j hj => ?_⟩
      · by_cases q : f_X8_get k 8 μ8 ≤ μ8 121 7
        · rw [if_pos q]; exact i7
        · rw [if_neg q]
          rw [Int32.le_iff_toInt_le] at q
          omega
      · rw [pk_un (by omega)]; exact i43 j hj
      · rw [pk_un (by omega), pk_un (by omega), pk_un (by omega), pk_un (by omega)]; exact ib j hj
    · have z' : ¬ f_X8_get k 4 μ = 0 := z
      rw [if_neg z, if_neg z', if_pos rfl]
      obtain ⟨n1, n2⟩ := nd 0 rfl
      exact ⟨n1, CF.s (by omega), n2⟩
