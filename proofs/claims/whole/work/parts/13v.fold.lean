def PUTR (i q : Nat) (t d : Int32) (ω : Mem) : Int32 × Mem := if (f_X3_put i t d ω).1 = 0 then (0, (f_X3_put i t d ω).2) else f_X6_readInto_11 (61 - q) i t 1 q (f_X3_put i t d ω).2
theorem rstep {c : Nat → Int32} {L j i : Nat} {t w : Int32} {ω : Mem} (h : TXT c L) (hc : TC ω c L) (hj : j < L) : f_X6_readInto_11 (61 - j) i t w j ω = if c j = 58 then f_X6_readInto_11 (61 - (j + 1)) i t 1 (j + 1) ω else if c j = 44 then f_X6_readInto_11 (61 - (j + 1)) i 0 0 (j + 1) ω else if w = 0 then f_X6_readInto_11 (61 - (j + 1)) i (t * 10 + (c j - 48)) w (j + 1) ω else if (f_X3_put i t (c j - 48) ω).1 = 0 then (0, (f_X3_put i t (c j - 48) ω).2) else f_X6_readInto_11 (61 - (j + 1)) i t w (j + 1) (f_X3_put i t (c j - 48) ω).2 := by
  have hl := h.1
  obtain ⟨f, hf⟩ : ∃ f, 61 - (j + 1) = f := ⟨_, rfl⟩
  rw [hf, show 61 - j = f + 1 by omega]
  conv => lhs; unfold f_X6_readInto_11
  rw [hc.1, if_neg (nI_ge hj (by omega)), if_neg (by omega), hc.2 j hj]
theorem rend {c : Nat → Int32} {L i : Nat} {t w : Int32} {ω : Mem} (h : TXT c L) (hc : TC ω c L) : f_X6_readInto_11 (61 - L) i t w L ω = (1, ω) := by
  have hl := h.1
  obtain ⟨f, hf⟩ : ∃ f, 61 - L = f + 1 := ⟨60 - L, by omega⟩
  rw [hf]
  unfold f_X6_readInto_11
  rw [hc.1, if_pos (nI_le (Nat.le_refl L) (by omega))]
theorem dg_ne {x : Int32} (h : ¬ dg x = 0) : ¬ x = 58 ∧ ¬ x = 44 := ⟨fun e => h (by rw [e]; decide), fun e => h (by rw [e]; decide)⟩
theorem r_E {c : Nat → Int32} {L i p q : Nat} {t t' d : Int32} {ω : Mem} (h : TXT c L) (hc : TC ω c L) (e : entE c t p = (true, q, t', d)) : f_X6_readInto_11 (61 - p) i t 0 p ω = PUTR i q t' d ω := by
  unfold entE at e
  by_cases z : c p = 58
  · rw [if_pos z] at e
    by_cases z1 : dg (c (p + 1)) = 0
    · rw [if_pos z1] at e
      injection e with e1 e2
      exact Bool.noConfusion e1
    · rw [if_neg z1] at e
      injection e with e1 e2
      injection e2 with e2 e3
      injection e3 with e3 e4
      subst e2 e3 e4
      have l1 := cl_lt h z (by decide)
      have l2 := dg_lt h z1
      obtain ⟨n1, n2⟩ := dg_ne z1
      rw [rstep h hc l1, if_pos z, rstep h hc l2, if_neg n1, if_neg n2, if_neg (by decide : ¬ (1 : Int32) = 0)]
      rfl
  · rw [if_neg z] at e
    injection e with e1 e2
    exact Bool.noConfusion e1
theorem r_D {c : Nat → Int32} {L i q : Nat} {t' d : Int32} {ω : Mem} (h : TXT c L) (hc : TC ω c L) : ∀ (fu p : Nat) (t : Int32), entD c fu t p = (true, q, t', d) → f_X6_readInto_11 (61 - p) i t 0 p ω = PUTR i q t' d ω := by
  intro fu
  induction fu with
  | zero => intro p t e; exact r_E h hc e
  | succ fu ih =>
    intro p t e
    unfold entD at e
    by_cases z : t ≤ 0
    · rw [if_pos z] at e; exact r_E h hc e
    · rw [if_neg z] at e
      by_cases z1 : dg (c p) = 0
      · rw [if_pos z1] at e; exact r_E h hc e
      · rw [if_neg z1] at e
        obtain ⟨n1, n2⟩ := dg_ne z1
        rw [rstep h hc (dg_lt h z1), if_neg n1, if_neg n2, if_pos rfl, Int32.mul_comm]
        exact ih (p + 1) _ e
theorem r_ent {c : Nat → Int32} {L i p q : Nat} {t' d : Int32} {ω : Mem} (h : TXT c L) (hc : TC ω c L) (e : ent c p = (true, q, t', d)) : f_X6_readInto_11 (61 - p) i 0 0 p ω = PUTR i q t' d ω := by
  unfold ent at e
  by_cases z1 : dg (c p) = 0
  · rw [if_pos z1] at e
    injection e with e1 e2
    exact Bool.noConfusion e1
  · rw [if_neg z1] at e
    obtain ⟨n1, n2⟩ := dg_ne z1
    rw [rstep h hc (dg_lt h z1), if_neg n1, if_neg n2, if_pos rfl, Int32.zero_mul, Int32.zero_add]
    exact r_D h hc 3 (p + 1) _ e
def rdL (i : Nat) : List (Int32 × Int32) → Mem → Int32 × Mem
  | [], ω => (1, ω)
  | x :: es, ω => if (f_X3_put i x.1 x.2 ω).1 = 0 then (0, (f_X3_put i x.1 x.2 ω).2) else rdL i es (f_X3_put i x.1 x.2 ω).2
theorem r_good {c : Nat → Int32} {L : Nat} (h : TXT c L) : ∀ (es : List (Int32 × Int32)) (p : Nat) (ω μ : Mem), Good c L p es → TC ω c L → PR 49 ω (μ 121) → f_X6_readInto_11 (61 - p) 49 0 0 p ω = rdL 49 es ω := by
  intro es
  induction es with
  | nil => intro p ω μ g; exact g.elim
  | cons x es ih =>
    intro p ω μ g hc hp
    obtain ⟨q, e, g⟩ := g
    rw [r_ent h hc e]
    unfold PUTR rdL
    rcases put_sim (t := x.1) (d := x.2) hp with ⟨-, -, -, -, e1⟩ | ⟨-, -, e1, u1, u2, -⟩
    · rw [e1, if_pos rfl, if_pos rfl]
    · rw [e1, if_neg (by decide : ¬ (1 : Int32) = 0), if_neg (by decide : ¬ (1 : Int32) = 0)]
      have hc2 : TC (f_X3_put 49 x.1 x.2 ω).2 c L := by
        unfold TC
        rw [u2 118 (by decide), u2 119 (by decide)]; exact hc
      rcases g with ⟨g1, g2⟩ | ⟨g1, g2, g3⟩
      · subst g1 g2
        exact rend h hc2
      · rw [rstep h hc2 g1, if_neg (by rw [g2]; decide), if_pos g2]
        exact ih (q + 1) _ _ g3 hc2 u1
/-- how many new ticks -/
def dL : List Int32 → List (Int32 × Int32) → Nat
  | _, [] => 0
  | S, x :: es => if x.1 ∈ S then dL S es else dL (x.1 :: S) es + 1
def ENT (μ : Mem) (j : Nat) (es : List (Int32 × Int32)) : Prop := μ 120 11 = nI (j + es.length) ∧ j + es.length ≤ 32 ∧ ∀ (i : Nat) (x : Int32 × Int32), es[i]? = some x → μ 126 (j + i) = x.1 ∧ μ 127 (j + i) = x.2
theorem ENT.tl {μ μ' : Mem} {j : Nat} {x : Int32 × Int32} {es : List (Int32 × Int32)} (h : ENT μ j (x :: es)) (h1 : μ' 120 = μ 120) (h2 : μ' 126 = μ 126) (h3 : μ' 127 = μ 127) : ENT μ' (j + 1) es := by
  obtain ⟨a, b, c⟩ := h
  rw [List.length_cons] at a b
  unfold ENT
  rw [h1, h2, h3]
  refine ⟨by rw [a, show j + (es.length + 1) = j + 1 + es.length by omega], by omega, fun i y hi => ?_⟩
  rw [show j + 1 + i = j + (i + 1) by omega]
  exact c (i + 1) y hi
theorem ENT.hd {μ : Mem} {j : Nat} {x : Int32 × Int32} {es : List (Int32 × Int32)} (h : ENT μ j (x :: es)) : μ 126 j = x.1 ∧ μ 127 j = x.2 := h.2.2 0 x rfl
theorem fold_sim : ∀ (es : List (Int32 × Int32)) (S : List Int32) (j : Nat) (ω μ : Mem), PR 49 ω (μ 121) → (∀ x, inP (μ 121) x ↔ x ∈ S) → ENT μ j es → (∀ x, x ∈ es → rg x.2 9) → (∀ j, j < (μ 121 43).toNatClampNeg → rg (μ 121 (44 + 2 * j + 1)) 9) →
    ((μ 121 43).toNatClampNeg + dL S es ≤ 12 → ∃ ω' μ', rdL 49 es ω = (1, ω') ∧ (∀ fu, es.length < fu → f_X8_readPlan_71 fu j μ = (μ' 121 43, μ')) ∧ (∀ fu, goodP fu j μ) ∧ PR 49 ω' (μ' 121) ∧ (∀ j, j < (μ' 121 43).toNatClampNeg → rg (μ' 121 (44 + 2 * j + 1)) 9) ∧ (∀ z, (z < 49 ∨ 52 ≤ z) → ω' z = ω z) ∧ (∀ z, z ≠ 121 → μ' z = μ z) ∧ ∀ z, (z < 43 ∨ 68 ≤ z) → μ' 121 z = μ 121 z) ∧
    (12 < (μ 121 43).toNatClampNeg + dL S es → ∃ ω', rdL 49 es ω = (0, ω') ∧ ∀ z, (z < 49 ∨ 52 ≤ z) → ω' z = ω z) := by
  intro es
  induction es with
  | nil =>
    intro S j ω μ hp hS hE hd hd2
    have h12 := hp.2.1.2
    have e11 : (μ 120 11).toNatClampNeg = j := by rw [hE.1, nI_clamp (by have := hE.2.1; omega)]; rfl
    have e0 : dL S [] = 0 := rfl
    refine ⟨fun _ => ⟨ω, μ, rfl, fun fu hf => ?_, fun fu => ?_, hp, hd2, fun _ _ => rfl, fun _ _ => rfl, fun _ _ => rfl⟩, fun q => by omega⟩
    · obtain ⟨k, rfl⟩ : ∃ k, fu = k + 1 := ⟨fu - 1, by omega⟩
      unfold f_X8_readPlan_71
      rw [e11, if_pos (Nat.le_refl j)]
    · cases fu with
      | zero => exact True.intro
      | succ fu => exact fun q => by omega
  | cons x es ih =>
    intro S j ω μ hp hS hE hd hd2
    have hl := hE.2.1
    rw [List.length_cons] at hl
    have e11 : (μ 120 11).toNatClampNeg = j + (es.length + 1) := by rw [hE.1, List.length_cons, nI_clamp (by omega)]
    obtain ⟨t1, t2⟩ := hE.hd
    have hx := hd x (List.mem_cons_self ..)
    rcases put_sim (t := x.1) (d := x.2) hp with ⟨a1, a2, a3, a4, a5⟩ | ⟨a0, a1, a2, u1, u2, u3, u4, u5, u6, u7, u8⟩
    · have n12 : (μ 121 43).toNatClampNeg = 12 := by rw [a1]; rfl
      have nS : ¬ x.1 ∈ S := fun q => a2 ((hS _).2 q)
      have ed : dL S (x :: es) = dL (x.1 :: S) es + 1 := if_neg nS
      refine ⟨fun q => by omega, fun _ => ⟨ω, ?_, fun _ _ => rfl⟩⟩
      unfold rdL
      rw [a5, if_pos rfl]
    · have er : rdL 49 (x :: es) ω = rdL 49 es (f_X3_put 49 x.1 x.2 ω).2 := by
        conv => lhs; unfold rdL
        rw [a2, if_neg (by decide : ¬ (1 : Int32) = 0)]
      have hE2 := hE.tl (μ' := f_X8_plans x.1 x.2 μ) (u3 120 (by decide)) (u3 126 (by decide)) (u3 127 (by decide))
      have h71 : ∀ fu, f_X8_readPlan_71 (fu + 1) j μ = f_X8_readPlan_71 fu (j + 1) (f_X8_plans x.1 x.2 μ) := fun fu => by
        conv => lhs; unfold f_X8_readPlan_71
        rw [e11, if_neg (by omega), t1, t2]
      have step : ∀ S' : List Int32, (∀ y, inP ((f_X8_plans x.1 x.2 μ) 121) y ↔ y ∈ S') → ((f_X8_plans x.1 x.2 μ) 121 43).toNatClampNeg + dL S' es = (μ 121 43).toNatClampNeg + dL S (x :: es) → ((μ 121 43).toNatClampNeg + dL S (x :: es) ≤ 12 → ∃ ω' μ', rdL 49 (x :: es) ω = (1, ω') ∧ (∀ fu, (x :: es).length < fu → f_X8_readPlan_71 fu j μ = (μ' 121 43, μ')) ∧ (∀ fu, goodP fu j μ) ∧ PR 49 ω' (μ' 121) ∧ (∀ j, j < (μ' 121 43).toNatClampNeg → rg (μ' 121 (44 + 2 * j + 1)) 9) ∧ (∀ z, (z < 49 ∨ 52 ≤ z) → ω' z = ω z) ∧ (∀ z, z ≠ 121 → μ' z = μ z) ∧ ∀ z, (z < 43 ∨ 68 ≤ z) → μ' 121 z = μ 121 z) ∧
          (12 < (μ 121 43).toNatClampNeg + dL S (x :: es) → ∃ ω', rdL 49 (x :: es) ω = (0, ω') ∧ ∀ z, (z < 49 ∨ 52 ≤ z) → ω' z = ω z) := by
        intro S' hS' hn
        obtain ⟨i1, i2⟩ := ih S' (j + 1) _ _ u1 hS' hE2 (fun y hy => hd y (List.mem_cons_of_mem _ hy)) (u8 hx hd2)
        rw [← hn, er]
        refine ⟨fun q => ?_, fun q => ?_⟩
        · obtain ⟨ω', μ', b1, b2, b3, b4, b5, b6, b7, b8⟩ := i1 q
          refine ⟨ω', μ', b1, fun fu hf => ?_, fun fu => ?_, b4, b5, fun z hz => (b6 z hz).trans (u2 z (by omega)), fun z hz => (b7 z hz).trans (u3 z hz), fun z hz => (b8 z hz).trans (u4 z hz)⟩
          · rw [List.length_cons] at hf
            obtain ⟨k, rfl⟩ : ∃ k, fu = k + 1 := ⟨fu - 1, by omega⟩
            rw [h71]
            exact b2 k (by omega)
          · cases fu with
            | zero => exact True.intro
            | succ fu =>
              intro _
              rw [t1, t2]
              refine ⟨fun q5 => ?_, b3 fu⟩
              rcases a0 with a | a
              · obtain ⟨m, m1, m2⟩ := a
                rcases place_eq (t := x.1) hp rfl with ⟨m', l', -, m3, -⟩ | ⟨-, -, m3⟩
                · have h12 := hp.2.1.2
                  rw [m3] at q5
                  exact absurd (congrArg Int32.toInt q5) (by rw [nI_toInt (by omega)]; have : Int32.toInt (-5) = -5 := rfl; omega)
                · exact absurd m2 (m3 m m1)
              · exact a
        · obtain ⟨ω', b1, b2⟩ := i2 q
          exact ⟨ω', b1, fun z hz => (b2 z hz).trans (u2 z (by omega))⟩
      by_cases q : x.1 ∈ S
      · have ed : dL S (x :: es) = dL S es := if_pos q
        refine step S (fun y => ?_) (by rw [u5 ((hS _).2 q), ed])
        rw [u7 y, hS]
        exact ⟨fun z => z.elim (fun z => by rw [z]; exact q) id, Or.inr⟩
      · have ed : dL S (x :: es) = dL (x.1 :: S) es + 1 := if_neg q
        refine step (x.1 :: S) (fun y => ?_) (by rw [u6 (fun z => q ((hS _).1 z)), ed]; omega)
        rw [u7 y, hS, List.mem_cons]
