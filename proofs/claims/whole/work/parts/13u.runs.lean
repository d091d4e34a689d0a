def Good (c : Nat → Int32) (L : Nat) : Nat → List (Int32 × Int32) → Prop
  | _, [] => False
  | p, x :: es => ∃ q, ent c p = (true, q, x.1, x.2) ∧ ((q = L ∧ es = []) ∨ (q < L ∧ c q = 44 ∧ Good c L (q + 1) es))
def Bad (c : Nat → Int32) (L : Nat) : Nat → Nat → Nat → Prop
  | 0, _, _ => False
  | k + 1, p, f => (∃ t d, ent c p = (false, f, t, d)) ∨ ∃ q t d, ent c p = (true, q, t, d) ∧ q < L ∧ ((¬ c q = 44 ∧ f = q) ∨ (c q = 44 ∧ Bad c L k (q + 1) f))
theorem run_or {c : Nat → Int32} {L : Nat} (h : TXT c L) : ∀ (k p : Nat), p ≤ L → L < p + k → (∃ es, Good c L p es) ∨ ∃ f, Bad c L k p f := by
  intro k
  induction k with
  | zero => intro p h1 h2; omega
  | succ k ih =>
    intro p h1 h2
    have ok := ent_ok h h1
    rcases e : ent c p with ⟨b, q, t, d⟩
    rw [e] at ok
    cases b with
    | false => exact Or.inr ⟨q, Or.inl ⟨t, d, e⟩⟩
    | true =>
      obtain ⟨o1, o2, o3⟩ := ok.1 rfl
      have o1 : p + 3 ≤ q := o1
      have o2 : q ≤ L := o2
      by_cases z : q = L
      · exact Or.inl ⟨[(t, d)], q, e, Or.inl ⟨z, rfl⟩⟩
      · by_cases z1 : c q = 44
        · rcases ih (q + 1) (by omega) (by omega) with ⟨es, g⟩ | ⟨f, g⟩
          · exact Or.inl ⟨(t, d) :: es, q, e, Or.inr ⟨by omega, z1, g⟩⟩
          · exact Or.inr ⟨f, Or.inr ⟨q, t, d, e, by omega, Or.inr ⟨z1, g⟩⟩⟩
        · exact Or.inr ⟨q, Or.inr ⟨q, t, d, e, by omega, Or.inl ⟨z1, rfl⟩⟩⟩
theorem Good.len {c : Nat → Int32} {L : Nat} (h : TXT c L) : ∀ (es : List (Int32 × Int32)) (p : Nat), Good c L p es → p ≤ L → p + 4 * es.length ≤ L + 1 ∧ ∀ x, x ∈ es → rg x.2 9 := by
  intro es
  induction es with
  | nil => intro p g; exact g.elim
  | cons x es ih =>
    intro p g hp
    obtain ⟨q, e, g⟩ := g
    have ok := ent_ok h hp
    rw [e] at ok
    obtain ⟨o1, o2, o3⟩ := ok.1 rfl
    have o1 : p + 3 ≤ q := o1
    rcases g with ⟨g1, g2⟩ | ⟨g1, g2, g3⟩
    · subst g2
      refine ⟨by rw [List.length_singleton]; omega, fun y hy => ?_⟩
      rw [List.mem_singleton.mp hy]
      exact o3
    · obtain ⟨i1, i2⟩ := ih (q + 1) g3 g1
      refine ⟨by rw [List.length_cons]; omega, fun y hy => ?_⟩
      rcases List.mem_cons.mp hy with z | z
      · rw [z]; exact o3
      · exact i2 y z
theorem fault6 {c : Nat → Int32} {L q : Nat} {ω : Mem} (h : TXT c L) (hc : TC ω c L) (hq : q ≤ L) : f_X6_fault_4 (61 - q) 6 q ω = if q = L then -1 else if c q = 44 then f_X6_fault_4 (61 - (q + 1)) 0 (q + 1) ω else nI q := by
  have hl := h.1
  obtain ⟨f, hf⟩ : ∃ f, 61 - (q + 1) = f := ⟨_, rfl⟩
  rw [hf, show 61 - q = f + 1 by omega]
  conv => lhs; unfold f_X6_fault_4
  rw [hc.1]
  by_cases z : q = L
  · rw [if_pos (nI_le (by omega) (by omega)), if_pos rfl, if_pos z]
  · have e6 : f_X6_placeAfter 6 (c q) ω = if c q = 44 then 0 else 7 := rfl
    rw [if_neg (nI_ge (by omega) (by omega)), if_neg (by omega), hc.2 q (by omega), if_neg z, e6]
    by_cases z1 : c q = 44
    · rw [if_pos z1, if_pos z1, if_neg (by decide : ¬ (0 : Int32) = 7)]
    · rw [if_neg z1, if_neg z1, if_pos rfl]
theorem FO_ok {q : Nat} {t d : Int32} {ω : Mem} : FO (true, q, t, d) ω = f_X6_fault_4 (61 - q) 6 q ω := rfl
theorem Good.fault {c : Nat → Int32} {L : Nat} {ω : Mem} (h : TXT c L) (hc : TC ω c L) : ∀ (es : List (Int32 × Int32)) (p : Nat), Good c L p es → p ≤ L → f_X6_fault_4 (61 - p) 0 p ω = -1 := by
  intro es
  induction es with
  | nil => intro p g; exact g.elim
  | cons x es ih =>
    intro p g hp
    obtain ⟨q, e, g⟩ := g
    rcases g with ⟨g1, g2⟩ | ⟨g1, g2, g3⟩
    · rw [f_ent h hc hp, e, FO_ok, fault6 h hc (by omega), if_pos g1]
    · rw [f_ent h hc hp, e, FO_ok, fault6 h hc (by omega), if_neg (by omega), if_pos g2]
      exact ih (q + 1) g3 g1
theorem Bad.fault {c : Nat → Int32} {L f : Nat} {ω : Mem} (h : TXT c L) (hc : TC ω c L) : ∀ (k p : Nat), Bad c L k p f → p ≤ L → f_X6_fault_4 (61 - p) 0 p ω = nI f ∧ f ≤ L := by
  intro k
  induction k with
  | zero => intro p g; exact g.elim
  | succ k ih =>
    intro p g hp
    rcases g with ⟨t, d, e⟩ | ⟨q, t, d, e, hq, g⟩
    · have ok := ent_ok h hp
      rw [e] at ok
      rw [f_ent h hc hp, e]
      exact ⟨rfl, ok.2 rfl⟩
    · rcases g with ⟨g1, g2⟩ | ⟨g1, g2⟩
      · rw [f_ent h hc hp, e, FO_ok, fault6 h hc (by omega), if_neg (by omega), if_neg g1, g2]
        exact ⟨rfl, by omega⟩
      · rw [f_ent h hc hp, e, FO_ok, fault6 h hc (by omega), if_neg (by omega), if_pos g1]
        exact ih (q + 1) g2 hq
/-- what the reading leaves alone -/
def FR (μ0 μ : Mem) : Prop := (∀ k, k ≠ 11 → k ≠ 12 → k ≠ 13 → μ 120 k = μ0 120 k) ∧ ∀ i, i ≠ 120 → i ≠ 126 → i ≠ 127 → μ i = μ0 i
theorem FR.tr {a b c : Mem} (h : FR a b) (k : FR b c) : FR a c := ⟨fun i a b c => (k.1 i a b c).trans (h.1 i a b c), fun i a b c => (k.2 i a b c).trans (h.2 i a b c)⟩
theorem MS.fr {μ0 μ : Mem} {p : Nat} {w : Int32} (h : MS μ0 μ p w) : FR μ0 μ := ⟨fun k _ b c => h.2.2.1 k b c, fun i a _ _ => h.2.2.2 i a⟩
theorem TM.fr {μ0 μ : Mem} {c : Nat → Int32} {L : Nat} (h : TM μ0 c L) (f : FR μ0 μ) : TM μ c L := by
  refine ⟨(f.1 8 (by decide) (by decide) (by decide)).trans h.1, fun j => ?_⟩
  rw [f.2 125 (by decide) (by decide) (by decide)]; exact h.2 j
theorem MS.self {μ : Mem} {p : Nat} (h1 : μ 120 12 = nI p) (h2 : bb (μ 120 13) = 1) : MS μ μ p 1 := ⟨h1, h2, fun _ _ _ => rfl, fun _ _ => rfl⟩
theorem reads_bad {fu p : Nat} {μ0 μ : Mem} (h : MS μ0 μ p 0) : f_X8_reads_19 (fu + 1) μ = (nI p, μ) := by
  unfold f_X8_reads_19
  rw [if_pos h.2.1, h.1]
theorem reads_last {fu L : Nat} {c : Nat → Int32} {μ : Mem} (hx : TXT c L) (ht : TM μ c L) (h : MS μ μ L 1) : f_X8_reads_19 (fu + 1) μ = (-5, μ) := by
  have hl := hx.1
  unfold f_X8_reads_19
  have hb : ¬ bb (μ 120 13) = 0 := by rw [h.2.1]; decide
  rw [if_neg hb, ht.1, h.1, if_pos (Nat.le_refl _)]
theorem reads_next {fu L q : Nat} {c : Nat → Int32} {μ : Mem} (hx : TXT c L) (ht : TM μ c L) (h : MS μ μ q 1) (hq : q < L) : (c q = 44 → ∃ m, MS μ m (q + 1) 1 ∧ f_X8_reads_19 (fu + 1) μ = f_X8_reads_19 fu (f_X8_readsEntry m)) ∧ (¬ c q = 44 → ∃ m, MS μ m q 0 ∧ f_X8_reads_19 (fu + 1) μ = f_X8_reads_19 fu m) := by
  have hl := hx.1
  have hb : ¬ bb (μ 120 13) = 0 := by rw [h.2.1]; decide
  have hn : ¬ (μ 120 8).toNatClampNeg ≤ (μ 120 12).toNatClampNeg := by rw [ht.1, h.1, nI_clamp (by omega), nI_clamp (by omega)]; omega
  refine ⟨fun z => ⟨_, (tk_ok (a := 44) (b := 44) h ht hl (by omega) (by rw [in_one, if_pos z]; decide)).2, ?_⟩, fun z => ⟨_, tk_no (a := 44) (b := 44) h ht hl (by omega) (by rw [in_one, if_neg z]), ?_⟩⟩
  · conv => lhs; unfold f_X8_reads_19
    have b2 := (tk_ok (a := 44) (b := 44) h ht hl (by omega) (by rw [in_one, if_pos z]; decide)).2.2.1
    have b3 : ¬ bb ((f_X8_takes 44 44 μ).2 120 13) = 0 := by rw [b2]; decide
    rw [if_neg hb, if_neg hn, if_neg b3]
  · conv => lhs; unfold f_X8_reads_19
    have b2 := (tk_no (a := 44) (b := 44) h ht hl (by omega) (by rw [in_one, if_neg z])).2.1
    rw [if_neg hb, if_neg hn, if_pos b2]
theorem RO.ok {q : Nat} {t d : Int32} {μ0 μ : Mem} (h : RO (true, q, t, d) μ0 μ) : MS μ μ q 1 ∧ FR μ0 μ ∧ μ 120 11 = μ0 120 11 + 1 ∧ μ 126 = upd (μ0 126) (μ0 120 11).toNatClampNeg t ∧ μ 127 = upd (μ0 127) (μ0 120 11).toNatClampNeg d := by
  obtain ⟨h1, h2, h3, h4, h5, h6, h7⟩ : _ ∧ _ ∧ _ ∧ _ ∧ _ ∧ _ ∧ _ := h
  exact ⟨MS.self h1 h2, ⟨h4, h7⟩, h3, h5, h6⟩
theorem Bad.reads {c : Nat → Int32} {L f : Nat} (hx : TXT c L) : ∀ (k p fu : Nat) (μ0 μ : Mem), Bad c L k p f → p ≤ L → L - p + 2 ≤ fu → TM μ0 c L → MS μ0 μ p 1 → ∃ μ', f_X8_reads_19 fu (f_X8_readsEntry μ) = (nI f, μ') ∧ FR μ0 μ' := by
  intro k
  induction k with
  | zero => intro p fu μ0 μ g; exact g.elim
  | succ k ih =>
    intro p fu μ0 μ g hp hf ht h
    have r := m_ent hx ht h hp
    have ok := ent_ok hx hp
    rcases g with ⟨t, d, e⟩ | ⟨q, t, d, e, hq, g⟩
    · rw [e] at r
      obtain ⟨k, rfl⟩ : ∃ k, fu = k + 1 := ⟨fu - 1, by omega⟩
      exact ⟨_, reads_bad r, MS.fr r⟩
    · rw [e] at r ok
      have o1 : p + 3 ≤ q := (ok.1 rfl).1
      obtain ⟨r1, r2, -⟩ := r.ok
      rcases g with ⟨g1, g2⟩ | ⟨g1, g2⟩
      · obtain ⟨k, rfl⟩ : ∃ k, fu = k + 1 + 1 := ⟨fu - 2, by omega⟩
        obtain ⟨m, m1, m2⟩ := (reads_next (fu := k + 1) hx (ht.fr r2) r1 hq).2 g1
        rw [g2]
        exact ⟨m, m2.trans (reads_bad m1), r2.tr m1.fr⟩
      · obtain ⟨k2, rfl⟩ : ∃ k, fu = k + 1 := ⟨fu - 1, by omega⟩
        obtain ⟨m, m1, m2⟩ := (reads_next (fu := k2) hx (ht.fr r2) r1 hq).1 g1
        obtain ⟨μ', a, b⟩ := ih (q + 1) k2 _ m g2 hq (by omega) (ht.fr r2) m1
        exact ⟨μ', m2.trans a, r2.tr b⟩
/-- the entries read lie in the model's rows -/
def EN (μ0 μ : Mem) (e : Nat) (es : List (Int32 × Int32)) : Prop := μ 120 11 = nI (e + es.length) ∧ (∀ (i : Nat) (x : Int32 × Int32), es[i]? = some x → μ 126 (e + i) = x.1 ∧ μ 127 (e + i) = x.2) ∧ ∀ i, i < e → μ 126 i = μ0 126 i ∧ μ 127 i = μ0 127 i
theorem Good.reads {c : Nat → Int32} {L : Nat} (hx : TXT c L) : ∀ (es : List (Int32 × Int32)) (p fu e : Nat) (μ0 μ : Mem), Good c L p es → p ≤ L → L - p + 2 ≤ fu → e + es.length ≤ 100 → μ0 120 11 = nI e → TM μ0 c L → MS μ0 μ p 1 → ∃ μ', f_X8_reads_19 fu (f_X8_readsEntry μ) = (-5, μ') ∧ FR μ0 μ' ∧ EN μ0 μ' e es := by
  intro es
  induction es with
  | nil => intro p fu e μ0 μ g; exact g.elim
  | cons x es ih =>
    intro p fu e μ0 μ g hp hf he h11 ht h
    obtain ⟨q, e1, g⟩ := g
    rw [List.length_cons] at he
    have ok := ent_ok hx hp
    have r := m_ent hx ht h hp
    rw [e1] at r ok
    have o1 : p + 3 ≤ q := (ok.1 rfl).1
    obtain ⟨r1, r2, r3, r4, r5⟩ := r.ok
    rw [h11, nI_clamp (by omega)] at r4 r5
    obtain ⟨k, rfl⟩ : ∃ k, fu = k + 1 := ⟨fu - 1, by omega⟩
    rcases g with ⟨g1, g2⟩ | ⟨g1, g2, g3⟩
    · subst g2 g1
      refine ⟨_, reads_last hx (ht.fr r2) r1, r2, by rw [r3, h11, nI_1]; rfl, fun i y hi => ?_, fun i hi => ?_⟩
      · cases i with
        | zero =>
          have hi : some x = some y := hi
          injection hi with hi
          rw [r4, r5, Nat.add_zero, pk_us, pk_us, hi]
          exact ⟨rfl, rfl⟩
        | succ i =>
          have hi : none = some y := hi
          exact nomatch hi
      · rw [r4, r5, pk_un (by omega), pk_un (by omega)]; exact ⟨rfl, rfl⟩
    · obtain ⟨m, m1, m2⟩ := (reads_next (fu := k) hx (ht.fr r2) r1 g1).1 g2
      generalize f_X8_readsEntry μ = μ1 at *
      have e11 : μ1 120 11 = nI (e + 1) := by rw [r3, h11, nI_1]
      obtain ⟨μ', a, b, c1, c2, c3⟩ := ih (q + 1) k (e + 1) μ1 m g3 g1 (by omega) (by omega) e11 (ht.fr r2) m1
      refine ⟨μ', m2.trans a, r2.tr b, ?_, fun i y hi => ?_, fun i hi => ?_⟩
      · rw [c1, List.length_cons, show e + 1 + es.length = e + (es.length + 1) by omega]
      · cases i with
        | zero =>
          have hi : some x = some y := hi
          injection hi with hi
          rw [Nat.add_zero, (c3 e (by omega)).1, (c3 e (by omega)).2, r4, r5, pk_us, pk_us, hi]
          exact ⟨rfl, rfl⟩
        | succ i =>
          rw [show e + (i + 1) = e + 1 + i by omega]
          exact c2 i y hi
      · rw [(c3 i (by omega)).1, (c3 i (by omega)).2, r4, r5, pk_un (by omega), pk_un (by omega)]; exact ⟨rfl, rfl⟩
