theorem dL_le : ∀ (es : List (Int32 × Int32)) (S : List Int32), dL S es ≤ es.length := by
  intro es
  induction es with
  | nil => intro S; exact Nat.le_refl 0
  | cons x es ih =>
    intro S
    rw [List.length_cons]
    unfold dL
    by_cases q : x.1 ∈ S
    · rw [if_pos q]; have := ih S; omega
    · rw [if_neg q]; have := ih (x.1 :: S); omega
theorem clr_at : ∀ (fu j : Nat) (μ : Mem), (∀ z, (z < 44 ∨ 68 ≤ z) → (clr fu j μ) 121 z = μ 121 z) ∧ ∀ i, i ≠ 121 → (clr fu j μ) i = μ i := by
  intro fu
  induction fu with
  | zero => intro j μ; exact ⟨fun _ _ => rfl, fun _ _ => rfl⟩
  | succ fu ih =>
    intro j μ
    unfold clr
    by_cases q : 24 ≤ j
    · rw [if_pos q]; exact ⟨fun _ _ => rfl, fun _ _ => rfl⟩
    · rw [if_neg q]
      obtain ⟨a, b⟩ := ih (j + 1) (st μ 121 (44 + j) 0)
      exact ⟨fun z hz => (a z hz).trans (st_ne (by omega)), fun i hi => (b i hi).trans (st_nei (fun e => hi e.symm))⟩
theorem r39 : ∀ (fu j : Nat) (μ : Mem), j ≤ 24 → 24 < j + fu → f_X8_readPlan_39 fu j μ = f_X8_readPlan_71 33 0 (st (clr fu j μ) 121 43 0) := by
  intro fu
  induction fu with
  | zero => intro j μ h0 h; omega
  | succ fu ih =>
    intro j μ h0 h
    unfold f_X8_readPlan_39 clr
    by_cases q : 24 ≤ j
    · rw [if_pos q, if_pos q]
    · rw [if_neg q, if_neg q]; exact ih (j + 1) _ (by omega) (by omega)
theorem LR.rd {ω μ μ' : Mem} (h : LR ω μ) (f : FR μ μ') : LR ω μ' := by
  obtain ⟨f1, f2⟩ := f
  refine ⟨?_, ⟨?_, fun q => ?_⟩, h.2.2.1.congr (fun _ _ _ => rfl) (f1 4 (by decide) (by decide) (by decide)) (f2 123 (by decide) (by decide) (by decide)), ?_, ?_, fun j hj => ?_⟩
  · rw [f2 121 (by decide) (by decide) (by decide)]; exact h.1
  · rw [f1 6 (by decide) (by decide) (by decide)]; exact h.2.1.1
  · rw [f1 6 (by decide) (by decide) (by decide)] at q
    rw [f2 124 (by decide) (by decide) (by decide)]; exact h.2.1.2 q
  · rw [f1 8 (by decide) (by decide) (by decide)]; exact h.2.2.2.1
  · rw [f1 8 (by decide) (by decide) (by decide)]; exact h.2.2.2.2.1
  · rw [f1 8 (by decide) (by decide) (by decide)] at hj
    rw [f2 125 (by decide) (by decide) (by decide)]; exact h.2.2.2.2.2 j hj
theorem LR.p3 {ω ω' μ : Mem} (h : LR ω μ) (c : ∀ z, (z < 49 ∨ 52 ≤ z) → ω' z = ω z) : LR ω' μ := by
  refine ⟨h.1.congr (fun j hj => c _ (by omega)), ⟨?_, fun q => (h.2.1.2 q).congr (fun j hj => c _ (by omega))⟩, h.2.2.1.congr (fun z h1 h2 => c z (by omega)) rfl rfl, ?_, h.2.2.2.2.1, fun j hj => ?_⟩
  · rw [c 0 (by decide)]; exact h.2.1.1
  · rw [c 118 (by decide)]; exact h.2.2.2.1
  · rw [c 119 (by decide)]; exact h.2.2.2.2.2 j hj
theorem plan_copy {ω : Mem} {s : Nat → Int32} (h : PR 49 ω s) : PR 9 (f_X3_copyFrom 9 49 ω) s ∧ ∀ z, (z < 9 ∨ 12 ≤ z) → (f_X3_copyFrom 9 49 ω) z = ω z := by
  obtain ⟨h1, h2, h3⟩ := h
  unfold f_X3_copyFrom
  obtain ⟨a1, a2⟩ := copyRow_at (n := 12) (u := 12) (r := 49 + 1) (t := 9 + 1) (ω := ω)
  obtain ⟨b1, b2⟩ := copyRow_at (n := 12) (u := 12) (r := 49 + 2) (t := 9 + 2) (ω := f_X7_copyRow 12 12 (49 + 1) (9 + 1) ω)
  generalize f_X7_copyRow 12 12 (49 + 2) (9 + 2) (f_X7_copyRow 12 12 (49 + 1) (9 + 1) ω) = m2 at *
  generalize f_X7_copyRow 12 12 (49 + 1) (9 + 1) ω = m1 at *
  have e49 : m2 49 = ω 49 := (b2 49 (by decide)).trans (a2 49 (by decide))
  have l := h2.2
  refine ⟨⟨?_, h2, fun j hj q hq => ?_⟩, fun z hz => ?_⟩
  · rw [st_eq, e49]; exact h1
  · rcases (show q = 0 ∨ q = 1 by omega) with rfl | rfl
    · refine Eq.trans ?_ (h3 j hj 0 (by decide))
      rw [st_nei (by decide), b2 _ (by decide)]
      exact a1 j (by omega) (by omega)
    · refine Eq.trans ?_ (h3 j hj 1 (by decide))
      rw [st_nei (by decide)]
      have x := b1 j (by omega) (by omega)
      rw [a2 51 (by decide)] at x
      exact x
  · rw [st_nei (by omega), b2 z (by omega), a2 z (by omega)]
/-- what the two readings of the text say -/
theorem read_both {ω μ : Mem} (h : LR ω μ) : ∃ (c : Nat → Int32) (L : Nat), TXT c L ∧ TC ω c L ∧
    ((∃ f μ', f ≤ 60 ∧ f_X6_fault ω = nI f ∧ f_X8_reads μ = (nI f, μ') ∧ FR μ μ') ∨
     (∃ es μ', Good c L 0 es ∧ es.length ≤ 15 ∧ (∀ x, x ∈ es → rg x.2 9) ∧ f_X6_fault ω = -1 ∧ f_X8_reads μ = (-5, μ') ∧ FR μ μ' ∧ ENT μ' 0 es)) := by
  obtain ⟨t1, t2, t3⟩ := h.2.2.2
  obtain ⟨L, hL, eL⟩ := rg_ex t2
  rw [eL, nI_clamp (by omega)] at t3
  refine ⟨fun j => if L ≤ j then 0 else μ 125 j, L, ?_⟩
  have hx : TXT (fun j => if L ≤ j then 0 else μ 125 j) L := ⟨hL, fun j hj => if_pos hj⟩
  have hc : TC ω (fun j => if L ≤ j then 0 else μ 125 j) L := by
    refine ⟨t1.trans eL, fun j hj => ?_⟩
    dsimp only
    rw [if_neg (by omega)]; exact t3 j hj
  refine ⟨hx, hc, ?_⟩
  have ht : TM (st (st (st μ 120 12 0) 120 13 1) 120 11 0) (fun j => if L ≤ j then 0 else μ 125 j) L := ⟨eL, fun j => rfl⟩
  have fr : FR μ (st (st (st μ 120 12 0) 120 13 1) 120 11 0) := ⟨fun k a b c => by rw [st_ne (fun e => a e.symm), st_ne (fun e => c e.symm), st_ne (fun e => b e.symm)], fun i a _ _ => by rw [st_nei (fun e => a e.symm), st_nei (fun e => a e.symm), st_nei (fun e => a e.symm)]⟩
  have hm : MS (st (st (st μ 120 12 0) 120 13 1) 120 11 0) (st (st (st μ 120 12 0) 120 13 1) 120 11 0) 0 1 := MS.self rfl (by rw [st_ne (by decide), st_eq]; decide)
  generalize (fun j => if L ≤ j then 0 else μ 125 j) = c at *
  rcases run_or hx (L + 1) 0 (Nat.zero_le _) (by omega) with ⟨es, g⟩ | ⟨f, g⟩
  · obtain ⟨l1, l2⟩ := Good.len hx es 0 g (Nat.zero_le _)
    obtain ⟨μ', a, b, e1, e2, e3⟩ := Good.reads hx es 0 62 0 _ _ g (Nat.zero_le _) (by omega) (by omega) rfl ht hm
    exact Or.inr ⟨es, μ', g, by omega, l2, Good.fault hx hc es 0 g (Nat.zero_le _), a, fr.tr b, e1, by omega, e2⟩
  · obtain ⟨μ', a, b⟩ := Bad.reads hx (L + 1) 0 62 _ _ g (Nat.zero_le _) (by omega) ht hm
    obtain ⟨f1, f2⟩ := Bad.fault hx hc (L + 1) 0 g (Nat.zero_le _)
    exact Or.inl ⟨f, μ', by omega, f1, a, fr.tr b⟩
theorem op_readPlan {ω μ : Mem} (h : LR ω μ) : OPP ω μ (f_X7_readPlan ω) (f_X8_readPlan μ) ∧ (f_X6_fault ω = -1 → hstP (f_X6_readInto 49 ω).2) ∧ ((f_X8_reads (st μ 120 0 0)).1 = -5 → f_X8_unlikeTicks (f_X8_reads (st μ 120 0 0)).2 ≤ 12 → goodP 33 0 (st (clr 25 0 (f_X8_records (f_X8_reads (st μ 120 0 0)).2)) 121 43 0)) := by
  have h' := h.th
  suffices hs : OPP ω (st μ 120 0 0) (f_X7_readPlan ω) (f_X8_readPlan μ) ∧ _ from ⟨OPP.th hs.1, hs.2⟩
  clear h
  unfold f_X7_readPlan f_X8_readPlan
  generalize st μ 120 0 0 = μ at *
  obtain ⟨c, L, hx, hc, hh⟩ := read_both h'
  rcases hh with ⟨f, μr, f1, f2, f3, f4⟩ | ⟨es, μr, g, e1, e2, f2, f3, f4, f5⟩
  · have n1 : ¬ nI f = -1 := fun e => absurd (congrArg Int32.toInt e) (by rw [nI_toInt (by omega)]; have : Int32.toInt (-1) = -1 := rfl; omega)
    have n5 : ¬ nI f = -5 := fun e => absurd (congrArg Int32.toInt e) (by rw [nI_toInt (by omega)]; have : Int32.toInt (-5) = -5 := rfl; omega)
    rw [f2, f3, if_neg n1]
    dsimp only
    rw [if_neg n5]
    refine ⟨⟨rfl, h'.rd f4, fun _ _ => rfl, fun z hz => f4.2 z (by omega) (by omega) (by omega)⟩, fun e => absurd e n1, fun e => absurd e n5⟩
  · rw [f2, f3, if_pos rfl]
    dsimp only
    rw [if_pos rfl, unlike_eq f5 (by omega)]
    have hr := h'.rd f4
    have dl := dL_le es []
    -- the class's reading
    have ei : f_X6_readInto 49 ω = rdL 49 es (st ω 49 2 0) := r_good hx es 0 (st ω 49 2 0) (fun _ _ => 0) g ⟨hc.1, hc.2⟩ ⟨st_eq, rg_of (j := 0) (by decide) (by decide), fun j hj => absurd hj (Nat.not_lt_zero j)⟩
    rw [ei]
    obtain ⟨cl1, cl2⟩ := clr_at 25 0 (f_X8_records μr)
    have hE : ENT (st (clr 25 0 (f_X8_records μr)) 121 43 0) 0 es := by
      have q120 : (st (clr 25 0 (f_X8_records μr)) 121 43 0) 120 11 = μr 120 11 := by rw [st_nei (by decide), cl2 120 (by decide), (records_fr μr).2 11 (by decide)]
      have q126 : (st (clr 25 0 (f_X8_records μr)) 121 43 0) 126 = μr 126 := by rw [st_nei (by decide), cl2 126 (by decide), (records_fr μr).1 126 (by decide) (by decide)]
      have q127 : (st (clr 25 0 (f_X8_records μr)) 121 43 0) 127 = μr 127 := by rw [st_nei (by decide), cl2 127 (by decide), (records_fr μr).1 127 (by decide) (by decide)]
      unfold ENT
      rw [q120, q126, q127]
      exact f5
    have z43 : (st (clr 25 0 (f_X8_records μr)) 121 43 0) 121 43 = 0 := st_eq
    have h0 : PR 49 (st ω 49 2 0) ((st (clr 25 0 (f_X8_records μr)) 121 43 0) 121) := by
      unfold PR
      rw [z43]
      exact ⟨st_eq, rg_of (j := 0) (by decide) (by decide), fun j hj => absurd hj (Nat.not_lt_zero j)⟩
    have hS : ∀ x, inP ((st (clr 25 0 (f_X8_records μr)) 121 43 0) 121) x ↔ x ∈ ([] : List Int32) := by
      intro x
      unfold inP
      rw [z43]
      exact ⟨fun ⟨j, a, _⟩ => absurd a (Nat.not_lt_zero j), fun q => nomatch q⟩
    obtain ⟨s1, s2⟩ := fold_sim es [] 0 (st ω 49 2 0) _ h0 hS hE e2 (by rw [z43]; exact fun j hj => absurd hj (Nat.not_lt_zero j))
    rw [z43, show (0 : Int32).toNatClampNeg + dL [] es = dL [] es from Nat.zero_add _] at s1 s2
    by_cases q : dL [] es ≤ 12
    · obtain ⟨ω', μ', b1, b2, b3, b4, b5, b6, b7, b8⟩ := s1 q
      have q' : nI (dL [] es) ≤ 12 := nI_le (b := 12) q (by decide)
      have c6 : ∀ z, (z < 49 ∨ 52 ≤ z) → ω' z = ω z := fun z hz => (b6 z hz).trans (st_nei (by omega))
      have hl := hr.p3 c6
      rw [if_pos q', b1, r39 25 0 _ (by decide) (by decide), b2 33 (by omega)]
      dsimp only
      rw [if_neg (by decide : ¬ (1 : Int32) = 0)]
      refine ⟨?_, fun _ => hl.hst, fun _ _ => b3 33⟩
      have hl2 := hl.rec
      have rh := record_sim hl.2.2.1 hl.1
      have p2 : PR 49 (f_X1_record 1 ω') (μ' 121) := by
        unfold PR
        rw [rh.2 49 (by decide)]
        refine ⟨b4.1, b4.2.1, fun j hj q3 hq3 => ?_⟩
        rw [rh.2 (49 + 1 + q3) (by omega)]
        exact b4.2.2 j hj q3 hq3
      obtain ⟨p3, p4⟩ := plan_copy p2
      have m7 : ∀ z, z ≠ 121 → μ' z = (f_X8_records μr) z := fun z hz => ((b7 z hz).trans (st_nei (fun e => hz e.symm))).trans (cl2 z hz)
      have m8 : ∀ z, (z < 43 ∨ 68 ≤ z) → μ' 121 z = (f_X8_records μr) 121 z := fun z hz => ((b8 z hz).trans (st_ne (by omega))).trans (cl1 z (by omega))
      have fin := hl2.plan p3 b5 p4 m7 m8
      refine ⟨p3.1, fin, fun z hz => ((p4 z (by omega)).trans (rec_hi hl z hz)).trans (c6 z (by omega)), fun z hz => ((m7 z (by omega)).trans (recs_lo μr z hz)).trans (f4.2 z (by omega) (by omega) (by omega))⟩
    · obtain ⟨ω', b1, b6⟩ := s2 (by omega)
      have q' : ¬ nI (dL [] es) ≤ 12 := nI_ge (b := dL [] es) (a := 12) (by omega) (by omega)
      have c6 : ∀ z, (z < 49 ∨ 52 ≤ z) → ω' z = ω z := fun z hz => (b6 z hz).trans (st_nei (by omega))
      have hl := hr.p3 c6
      rw [if_neg q', b1]
      dsimp only
      rw [if_pos rfl]
      refine ⟨⟨rfl, hl, fun z hz => c6 z (by omega), fun z hz => f4.2 z (by omega) (by omega) (by omega)⟩, fun _ => hl.hst, fun _ q2 => absurd q2 q'⟩
