def CF (B : Nat) (ω ω' : Mem) : Prop := ∀ z, (z < B ∨ B + 16 ≤ z) → ω' z = ω z
def MF (μ μ' : Mem) : Prop := (∀ i, i ≠ 121 → μ' i = μ i) ∧ ∀ j, j < 4 → μ' 121 j = μ 121 j
theorem CF.rf {B : Nat} {ω : Mem} : CF B ω ω := fun _ _ => rfl
theorem CF.tr {B : Nat} {a b c : Mem} (h : CF B a b) (k : CF B b c) : CF B a c := fun z hz => (k z hz).trans (h z hz)
theorem CF.s {B i k : Nat} {ω : Mem} {v : Int32} (hi : B ≤ i ∧ i < B + 16) : CF B ω (st ω i k v) := fun z hz => st_nei (by omega)
theorem CF.note {B ev : Nat} {bu ti : Int32} {ω : Mem} (hev : ev < 4) : CF B ω (f_X2_note (B + 11) ev bu ti ω) := fun z hz => (note_cells (B + 11) ev bu ti ω hev).2.2.2.2.2 z (by omega) (by omega) (by omega) (by omega) (by omega)
theorem MF.rf {μ : Mem} : MF μ μ := ⟨fun _ _ => rfl, fun _ _ => rfl⟩
theorem MF.tr {a b c : Mem} (h : MF a b) (k : MF b c) : MF a c := ⟨fun i hi => (k.1 i hi).trans (h.1 i hi), fun j hj => (k.2 j hj).trans (h.2 j hj)⟩
theorem MF.s {μ : Mem} {k : Nat} {v : Int32} (hk : 4 ≤ k) : MF μ (st μ 121 k v) := ⟨fun i hi => st_nei (fun e => hi e.symm), fun j hj => st_ne (by omega)⟩
theorem MF.tells {μ : Mem} {ev : Nat} {b : Int32} (hn : rg (μ 121 12) 10) (hev : ev < 4) : MF μ (f_X8_tells ev b μ) := ⟨(tells_row ev b μ hn hev).2, fun j hj => by rw [(tells_row ev b μ hn hev).1, noteS_low hev hn (by omega)]⟩
theorem IB.o {s : Nat → Int32} {k k' w : Nat} {v : Int32} (h : IB s k') (hk : k' ≠ k) (hw : w < 10) : IB (upd s (68 + 10 * k + w) v) k' := by
  unfold IB
  rw [pk_un (by omega), pk_un (by omega), pk_un (by omega), pk_un (by omega)]
  exact h
theorem IB.f4 {s : Nat → Int32} {k : Nat} {v : Int32} (h : IB s k) (hv : v = 0 ∨ ¬ s (68 + 10 * k + 1) = 0) : IB (upd s (68 + 10 * k + 4) v) k := by
  unfold IB
  rw [pk_un (by omega), pk_un (by omega), pk_us, pk_un (by omega)]
  exact ⟨h.1, h.2.1, hv, h.2.2.2⟩
theorem IB.f5 {s : Nat → Int32} {k : Nat} {v : Int32} (h : IB s k) (hv : rg v 900) : IB (upd s (68 + 10 * k + 5) v) k := by
  unfold IB
  rw [pk_un (by omega), pk_un (by omega), pk_us, pk_un (by omega)]
  exact ⟨h.1, h.2.1, h.2.2.1, hv⟩
theorem IB.fo {s : Nat → Int32} {k w : Nat} {v : Int32} (h : IB s k) (hw : w = 2 ∨ w = 3 ∨ 6 ≤ w) (hw2 : w < 10) : IB (upd s (68 + 10 * k + w) v) k := by
  unfold IB
  rw [pk_un (by omega), pk_un (by omega), pk_un (by omega), pk_un (by omega)]
  exact h
theorem IV.b {t g k w : Nat} {s : Nat → Int32} {v : Int32} (h : IV t g s) (hw : w < 10) (hI : IB (upd s (68 + 10 * k + w) v) k) (hk : k < 4) : IV t g (upd s (68 + 10 * k + w) v) := by
  obtain ⟨h0, h2, ⟨h4, h5⟩, h7, h43, hb⟩ := h
  have e43 : upd s (68 + 10 * k + w) v 43 = s 43 := pk_un (by omega)
  unfold IV
  rw [pk_un (by omega), pk_un (by omega), pk_un (by omega), pk_un (by omega), pk_un (by omega), e43]
  have hp := h43.1
  refine ⟨h0, h2, ⟨h4, h5⟩, h7, ⟨hp, fun j hj => ?_⟩, fun j hj => ?_⟩
  · rw [pk_un (by omega)]; exact h43.2 j hj
  · by_cases q : j = k
    · rw [q]; exact hI
    · exact (hb j hj).o q hw
theorem IV.note {t g ev : Nat} {s : Nat → Int32} {v b ti : Int32} (h : IV t g s) (hn : rg (s 12) 10) (hev : ev < 4) : IV t g (noteS v ev b ti s) := by
  obtain ⟨h0, h2, ⟨h4, h5⟩, h7, ⟨hp, h43⟩, hb⟩ := h
  unfold IV IB
  rw [noteS_low hev hn (by omega), noteS_low hev hn (by omega), noteS_low hev hn (by omega), noteS_low hev hn (by omega), noteS_low hev hn (by omega), noteS_low hev hn (by omega)]
  refine ⟨h0, h2, ⟨h4, h5⟩, h7, ⟨hp, fun j hj => ?_⟩, fun j hj => ?_⟩
  · rw [noteS_low hev hn (by omega)]; exact h43 j hj
  · rw [noteS_low hev hn (by omega), noteS_low hev hn (by omega), noteS_low hev hn (by omega), noteS_low hev hn (by omega)]; exact hb j hj
/-- a state in the midst of a tick: class and model -/
def SM (B t g : Nat) (ω μ : Mem) : Prop := RS B ω (μ 121) ∧ IV t g (μ 121)
theorem SM.n12 {B t g : Nat} {ω μ : Mem} (h : SM B t g ω μ) : rg (μ 121 12) 10 := h.1.2.2.2.1.2.1
theorem SM.ib {B t g k : Nat} {ω μ : Mem} (h : SM B t g ω μ) (hk : k < 4) : IB (μ 121) k := h.2.2.2.2.2.2 k hk
theorem SM.lay {B t g k w : Nat} {ω μ : Mem} {v v' : Int32} (h : SM B t g ω μ) (hk : k < 4) (hw : w < 10) (hv : cv w v = v') (hI : IB (upd (μ 121) (68 + 10 * k + w) v') k) : SM B t g (st ω (B + 4 + k) w v) (f_X8_lay k w v' μ) := by
  unfold SM f_X8_lay
  rw [row_st]
  exact ⟨h.1.b hk hw hv, h.2.b hw hI hk⟩
theorem SM.tells {B t g ev : Nat} {ω μ : Mem} {x : Int32} (h : SM B t g ω μ) (hev : ev < 4) : SM B t g (f_X2_note (B + 11) ev x (ω B 4) ω) (f_X8_tells ev x μ) := by
  unfold SM
  rw [(tells_row ev x μ h.n12 hev).1, h.1.s4]
  exact ⟨h.1.note hev, h.2.note h.n12 hev⟩
theorem lay_row {k w : Nat} {v : Int32} {μ : Mem} : (f_X8_lay k w v μ) 121 = upd (μ 121) (68 + 10 * k + w) v := row_st
theorem MF.lay {k w : Nat} {v : Int32} {μ : Mem} : MF μ (f_X8_lay k w v μ) := MF.s (by omega)
theorem get_lay {k w : Nat} {v : Int32} {μ : Mem} : f_X8_get k w (f_X8_lay k w v μ) = v := by
  unfold f_X8_get f_X8_lay
  exact st_eq
theorem get_layo {k w w' : Nat} {v : Int32} {μ : Mem} (h : w ≠ w') : f_X8_get k w' (f_X8_lay k w v μ) = f_X8_get k w' μ := by
  unfold f_X8_get f_X8_lay
  exact st_ne (by omega)
/-- the first step: a flame goes out -/
theorem step1 {B t g k : Nat} {ω μ : Mem} {d G : Int32} (h : SM B t g ω μ) (hB : isS B) (hk : k < 4) : ∃ μ1, f_X8_burns k d G μ = f_X8_burns_57 k d G μ1 ∧ SM B t g (f_X5_blow B (nI k) (B + 4 + k) d ω) μ1 ∧ CF B ω (f_X5_blow B (nI k) (B + 4 + k) d ω) ∧ MF μ μ1 := by
  have hb4 := h.1.b4 hk
  have c01 := bb01 (ω (B + 4 + k) 4)
  have ho := open_eq h.1 hk (h.ib hk)
  have hs := strength_eq h.1 hk (h.ib hk)
  have hsm := h.lay (w := 4) (v := 0) (v' := 0) hk (by decide) (by decide) ((h.ib hk).f4 (Or.inl rfl))
  unfold f_X5_blow f_X8_burns f_X8_burns_25
  rw [ho, hs]
  rw [hb4] at c01 ⊢
  rcases c01 with z | z
  · have z' : f_X8_get k 4 μ = 0 := z
    have n1 : ¬ f_X8_get k 4 μ = 1 := by rw [z']; decide
    rw [if_pos z, if_neg n1, if_neg n1]
    exact ⟨μ, rfl, h, CF.rf, MF.rf⟩
  · have z' : f_X8_get k 4 μ = 1 := z
    have n0 : ¬ μ 121 (68 + 10 * k + 4) = 0 := by rw [z]; decide
    have n2 : ¬ f_X8_get k 4 (f_X8_lay k 4 0 μ) = 1 := by rw [get_lay]; decide
    rw [if_neg n0, if_pos z']
    by_cases o : f_X8_isOpen k μ = 0
    · rw [if_pos o, if_pos o, if_neg n2]
      exact ⟨_, rfl, hsm, CF.s (by omega), MF.lay⟩
    · rw [if_neg o, if_neg o, if_pos z']
      by_cases q : d ≤ f_X8_strength k μ
      · rw [if_pos q, if_pos q]
        exact ⟨μ, rfl, h, CF.rf, MF.rf⟩
      · rw [if_neg q, if_neg q]
        refine ⟨_, rfl, hsm.tells (by decide), (CF.s (by omega)).tr (CF.note (by decide)), MF.lay.tr (MF.tells hsm.n12 (by decide))⟩
/-- the second: an igniter sparks -/
theorem step2 {B t g k : Nat} {ω μ : Mem} {d G : Int32} (h : SM B t g ω μ) (hB : isS B) (hk : k < 4) : ∃ μ1, f_X8_burns_57 k d G μ = f_X8_burns_100 k d G μ1 ∧ SM B t g (if μ 121 3 ≤ G then ω else f_X5_spark B (nI k) (B + 4 + k) d ω) μ1 ∧ CF B ω (if μ 121 3 ≤ G then ω else f_X5_spark B (nI k) (B + 4 + k) d ω) ∧ MF μ μ1 := by
  have hb4 := h.1.b4 hk
  have hb3 := h.1.b3 hk
  have c3 := bb01 (ω (B + 4 + k) 3)
  have ho := open_eq h.1 hk (h.ib hk)
  unfold f_X8_burns_57
  by_cases q4 : f_X8_get k 4 μ = 0
  · rw [if_pos q4]
    have q4' : μ 121 (68 + 10 * k + 4) = 0 := q4
    by_cases o : f_X8_isOpen k μ = 0
    · rw [if_pos o]
      refine ⟨μ, rfl, ?_⟩
      by_cases qg : μ 121 3 ≤ G
      · rw [if_pos qg]; exact ⟨h, CF.rf, MF.rf⟩
      · rw [if_neg qg]
        unfold f_X5_spark
        rw [ho, hb4, if_pos q4', if_pos o]
        rcases c3 with z | z <;> rw [z]
        · rw [if_pos rfl]; exact ⟨h, CF.rf, MF.rf⟩
        · rw [if_neg (by decide)]; exact ⟨h, CF.rf, MF.rf⟩
    · rw [if_neg o]
      by_cases q3 : f_X8_get k 3 μ = 1
      · rw [if_pos q3]
        by_cases qg : μ 121 3 ≤ G
        · rw [if_pos qg, if_pos qg]
          exact ⟨μ, rfl, h, CF.rf, MF.rf⟩
        · rw [if_neg qg, if_neg qg]
          refine ⟨_, rfl, ?_⟩
          have q3' : bb (ω (B + 4 + k) 3) = 1 := hb3.trans q3
          unfold f_X5_spark f_X8_sparks
          rw [ho, hb4, if_pos q4', q3', if_neg (by decide), if_neg o, h.1.b7 hk]
          have h7 := h.lay (w := 7) (v := μ 121 (68 + 10 * k + 7) + 1) (v' := μ 121 (68 + 10 * k + 7) + 1) hk (by decide) rfl ((h.ib hk).fo (by omega) (by decide))
          have tap : ¬ μ 121 (68 + 10 * k + 1) = 0 := by
            rcases open01 k μ with a | a
            · exact absurd a o
            · exact a.2
          have cf7 : CF B ω (st ω (B + 4 + k) 7 (μ 121 (68 + 10 * k + 7) + 1)) := CF.s (by omega)
          have mf7 : MF μ (f_X8_lay k 7 (μ 121 (68 + 10 * k + 7) + 1) μ) := MF.lay
          have tap7 : ¬ (f_X8_lay k 7 (μ 121 (68 + 10 * k + 7) + 1) μ) 121 (68 + 10 * k + 1) = 0 := by
            rw [lay_row, pk_un (by omega)]; exact tap
          show SM B t g _ (f_X8_sparks_16 k d (f_X8_lay k 7 (μ 121 (68 + 10 * k + 7) + 1) μ)) ∧ _ ∧ MF μ (f_X8_sparks_16 k d (f_X8_lay k 7 (μ 121 (68 + 10 * k + 7) + 1) μ))
          generalize st ω (B + 4 + k) 7 (μ 121 (68 + 10 * k + 7) + 1) = ω7 at *
          generalize f_X8_lay k 7 (μ 121 (68 + 10 * k + 7) + 1) μ = μ7 at *
          have hs := strength_eq h7.1 hk (h7.ib hk)
          unfold f_X5_spark_33 f_X8_sparks_16
          rw [hs, h7.1.b7 hk, h7.1.v1]
          by_cases qs : f_X8_strength k μ7 < d
          · rw [if_pos qs, if_pos qs]
            by_cases qt : f_X8_get k 7 μ7 < μ7 121 1
            · have qt' : μ7 121 (68 + 10 * k + 7) < μ7 121 1 := qt
              rw [if_pos qt, if_pos qt']
              exact ⟨h7, cf7, mf7⟩
            · have qt' : ¬ μ7 121 (68 + 10 * k + 7) < μ7 121 1 := qt
              rw [if_neg qt, if_neg qt']
              have h6 := h7.lay (w := 6) (v := 1) (v' := 1) hk (by decide) (by decide) ((h7.ib hk).fo (by omega) (by decide))
              exact ⟨h6.tells (by decide), cf7.tr ((CF.s (by omega)).tr (CF.note (by decide))), mf7.tr (MF.lay.tr (MF.tells h6.n12 (by decide)))⟩
          · rw [if_neg qs, if_neg qs]
            have h4 := h7.lay (w := 4) (v := 1) (v' := 1) hk (by decide) (by decide) ((h7.ib hk).f4 (Or.inr tap7))
            have h77 := h4.lay (w := 7) (v := 0) (v' := 0) hk (by decide) (by decide) ((h4.ib hk).fo (by omega) (by decide))
            exact ⟨h77.tells (by decide), cf7.tr ((CF.s (by omega)).tr ((CF.s (by omega)).tr (CF.note (by decide)))), mf7.tr (MF.lay.tr (MF.lay.tr (MF.tells h77.n12 (by decide))))⟩
      · rw [if_neg q3]
        refine ⟨μ, rfl, ?_⟩
        have z : bb (ω (B + 4 + k) 3) = 0 := by
          rcases c3 with z | z
          · exact z
          · exact absurd (hb3.symm.trans z) q3
        by_cases qg : μ 121 3 ≤ G
        · rw [if_pos qg]; exact ⟨h, CF.rf, MF.rf⟩
        · rw [if_neg qg]
          unfold f_X5_spark
          rw [hb4, if_pos q4', if_pos z]
          exact ⟨h, CF.rf, MF.rf⟩
  · rw [if_neg q4]
    refine ⟨μ, rfl, ?_⟩
    have q4' : ¬ μ 121 (68 + 10 * k + 4) = 0 := q4
    by_cases qg : μ 121 3 ≤ G
    · rw [if_pos qg]; exact ⟨h, CF.rf, MF.rf⟩
    · rw [if_neg qg]
      unfold f_X5_spark
      rw [hb4, if_neg q4']
      exact ⟨h, CF.rf, MF.rf⟩
