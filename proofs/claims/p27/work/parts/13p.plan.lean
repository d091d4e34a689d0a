/-- a plan of the class (cells i, i+1, i+2) and the plan in a row of the model -/
def PR (i : Nat) (ω : Mem) (s : Nat → Int32) : Prop := ω i 2 = s 43 ∧ rg (s 43) 12 ∧ ∀ j, j < (s 43).toNatClampNeg → ∀ q, q < 2 → ω (i + 1 + q) j = s (44 + 2 * j + q)
def inP (s : Nat → Int32) (t : Int32) : Prop := ∃ j, j < (s 43).toNatClampNeg ∧ s (44 + 2 * j) = t
theorem RS.pr {B : Nat} {ω : Mem} {s : Nat → Int32} (h : RS B ω s) : PR (B + 8) ω s := h.2.2.2.2.1
theorem place_lp {i n : Nat} {t : Int32} {ω μ : Mem} (h : PR i ω (μ 121)) (hn : (μ 121 43).toNatClampNeg = n) : ∀ (fu j : Nat), 12 < j + fu → j ≤ n → (∃ m, j ≤ m ∧ m < n ∧ f_X3_placeOf_2 fu i t j ω = nI m ∧ f_X8_entryAt_2 fu t j μ = nI m ∧ μ 121 (44 + 2 * m) = t) ∨ (f_X3_placeOf_2 fu i t j ω = nI n ∧ f_X8_entryAt_2 fu t j μ = -5 ∧ ∀ m, j ≤ m → m < n → ¬ μ 121 (44 + 2 * m) = t) := by
  obtain ⟨h1, h2, h3⟩ := h
  have hn12 : n ≤ 12 := by have := h2.2; omega
  have e43 : μ 121 43 = nI n := by have := h2.1; rw [hn] at this; exact this
  intro fu
  induction fu with
  | zero => intro j a b; omega
  | succ fu ih =>
    intro j a b
    unfold f_X3_placeOf_2 f_X8_entryAt_2
    rw [h1, hn, e43]
    by_cases q : n ≤ j
    · have q' : nI n ≤ nI j := nI_le q (by omega)
      rw [if_pos q', if_pos q]
      exact Or.inr ⟨rfl, rfl, fun m x y => by omega⟩
    · have q' : ¬ nI n ≤ nI j := nI_ge (by omega) (by omega)
      rw [if_neg q', if_neg q, if_neg (by omega)]
      have e : ω (i + 1) j = μ 121 (44 + 2 * j) := h3 j (by omega) 0 (by decide)
      rw [e]
      by_cases q2 : μ 121 (44 + 2 * j) = t
      · rw [if_pos q2, if_pos q2]
        exact Or.inl ⟨j, Nat.le_refl _, by omega, rfl, rfl, q2⟩
      · rw [if_neg q2, if_neg q2]
        rcases ih (j + 1) (by omega) (by omega) with ⟨m, x1, x2, x3, x4, x5⟩ | ⟨x1, x2, x3⟩
        · exact Or.inl ⟨m, by omega, x2, x3, x4, x5⟩
        · refine Or.inr ⟨x1, x2, fun m y1 y2 => ?_⟩
          by_cases z : m = j
          · rw [z]; exact q2
          · exact x3 m (by omega) y2
theorem place_eq {i n : Nat} {t : Int32} {ω μ : Mem} (h : PR i ω (μ 121)) (hn : (μ 121 43).toNatClampNeg = n) : (∃ m, m < n ∧ f_X3_placeOf i t ω = nI m ∧ f_X8_entryAt t μ = nI m ∧ μ 121 (44 + 2 * m) = t) ∨ (f_X3_placeOf i t ω = nI n ∧ f_X8_entryAt t μ = -5 ∧ ∀ m, m < n → ¬ μ 121 (44 + 2 * m) = t) := by
  rcases place_lp (t := t) h hn 13 0 (by decide) (Nat.zero_le _) with ⟨m, x1, x2, x3, x4, x5⟩ | ⟨x1, x2, x3⟩
  · exact Or.inl ⟨m, x2, x3, x4, x5⟩
  · exact Or.inr ⟨x1, x2, fun m y => x3 m (Nat.zero_le _) y⟩
theorem plan_put {i n x : Nat} {t d : Int32} {ω μ : Mem} (hn : n ≤ 12) (hx : x < n) (h1 : ω i 2 = nI n) (h2 : μ 121 43 = nI n) (hg : ∀ j, j < n → j ≠ x → ∀ q, q < 2 → ω (i + 1 + q) j = μ 121 (44 + 2 * j + q)) : PR i (st (st ω (i + 1) x t) (i + 2) x d) ((f_X8_plans_108 t d x μ) 121) := by
  unfold f_X8_plans_108
  rw [row_st, row_st]
  have e : upd (upd (μ 121) (44 + 2 * x) t) (44 + 2 * x + 1) d 43 = nI n := by
    rw [pk_un (by omega), pk_un (by omega)]; exact h2
  refine ⟨?_, ?_, fun j hj q hq => ?_⟩
  · rw [e, st_nei (by omega), st_nei (by omega)]; exact h1
  · rw [e]; exact rg_of hn (by omega)
  · rw [e, nI_clamp (by omega)] at hj
    rcases (show q = 0 ∨ q = 1 by omega) with rfl | rfl
    · rw [Nat.add_zero, Nat.add_zero, st_nei (i := i + 2) (by omega), pk_un (k := 44 + 2 * x + 1) (by omega)]
      by_cases z : j = x
      · rw [z, st_eq]
        exact pk_us.symm
      · rw [st_ne (by omega), pk_un (by omega)]
        exact hg j hj z 0 (by decide)
    · rw [show i + 1 + 1 = i + 2 from rfl]
      by_cases z : j = x
      · rw [z, st_eq, pk_us]
      · rw [st_ne (by omega), st_nei (by omega), pk_un (by omega), pk_un (by omega)]
        exact hg j hj z 1 (by decide)
theorem int_pred {x : Nat} (h : 0 < x) (h2 : x < 2 ^ 31) : (nI x - 1).toNatClampNeg = x - 1 := by
  rw [show nI x - 1 = nI (x - 1) from pk_sub (a := x) (b := 1) (by omega), nI_clamp (by omega)]
theorem make_lp {i n : Nat} {t d : Int32} (hn : n ≤ 11) : ∀ (fu x : Nat) (ω μ : Mem), x < fu → x ≤ n → ω i 2 = nI n → μ 121 43 = nI n → (∀ j, j < n + 1 → j ≠ x → ∀ q, q < 2 → ω (i + 1 + q) j = μ 121 (44 + 2 * j + q)) →
    ∃ (y : Nat) (ω' μ' : Mem), y ≤ n ∧ f_X3_makePlaceFor_5 fu i t (nI x) ω = (nI y, ω') ∧ f_X8_plans_20 fu t d x μ = f_X8_plans_108 t d y μ' ∧ ω' i 2 = nI (n + 1) ∧ μ' 121 43 = nI (n + 1) ∧ (∀ j, j < n + 1 → j ≠ y → ∀ q, q < 2 → ω' (i + 1 + q) j = μ' 121 (44 + 2 * j + q)) ∧ (∀ z, (z < i ∨ i + 3 ≤ z) → ω' z = ω z) ∧ (∀ z, z ≠ 121 → μ' z = μ z) ∧ (∀ z, (z < 43 ∨ 68 ≤ z) → μ' 121 z = μ 121 z) ∧
    (∀ j, j < n + 1 → j ≠ y → ∃ j2, j2 < n + 1 ∧ j2 ≠ x ∧ ∀ q, q < 2 → μ' 121 (44 + 2 * j + q) = μ 121 (44 + 2 * j2 + q)) ∧ (∀ j, j < n + 1 → j ≠ x → ∃ j2, j2 < n + 1 ∧ j2 ≠ y ∧ ∀ q, q < 2 → μ' 121 (44 + 2 * j2 + q) = μ 121 (44 + 2 * j + q)) := by
  intro fu
  induction fu with
  | zero => intro x ω μ a; omega
  | succ fu ih =>
    intro x ω μ a b h1 h2 hg
    unfold f_X3_makePlaceFor_5 f_X8_plans_20
    have fin : ∃ (y : Nat) (ω' μ' : Mem), y ≤ n ∧ (nI x, st ω i 2 (ω i 2 + 1)) = (nI y, ω') ∧ f_X8_plans_108 t d x (st μ 121 43 (μ 121 43 + 1)) = f_X8_plans_108 t d y μ' ∧ ω' i 2 = nI (n + 1) ∧ μ' 121 43 = nI (n + 1) ∧ (∀ j, j < n + 1 → j ≠ y → ∀ q, q < 2 → ω' (i + 1 + q) j = μ' 121 (44 + 2 * j + q)) ∧ (∀ z, (z < i ∨ i + 3 ≤ z) → ω' z = ω z) ∧ (∀ z, z ≠ 121 → μ' z = μ z) ∧ (∀ z, (z < 43 ∨ 68 ≤ z) → μ' 121 z = μ 121 z) ∧
        (∀ j, j < n + 1 → j ≠ y → ∃ j2, j2 < n + 1 ∧ j2 ≠ x ∧ ∀ q, q < 2 → μ' 121 (44 + 2 * j + q) = μ 121 (44 + 2 * j2 + q)) ∧ (∀ j, j < n + 1 → j ≠ x → ∃ j2, j2 < n + 1 ∧ j2 ≠ y ∧ ∀ q, q < 2 → μ' 121 (44 + 2 * j2 + q) = μ 121 (44 + 2 * j + q)) := by
      refine ⟨x, _, _, b, rfl, rfl, ?_, ?_, fun j x1 x2 q x3 => ?_, fun z hz => st_nei (by omega), fun z hz => st_nei (fun e => hz e.symm), fun z hz => st_ne (by omega), fun j x1 x2 => ⟨j, x1, x2, fun q x3 => st_ne (by omega)⟩, fun j x1 x2 => ⟨j, x1, x2, fun q x3 => st_ne (by omega)⟩⟩
      · rw [st_eq, h1, nI_1]
      · rw [st_eq, h2, nI_1]
      · rw [st_nei (by omega), st_ne (by omega)]; exact hg j x1 x2 q x3
    by_cases q : x ≤ 0
    · have q' : nI x ≤ 0 := nI_le (b := 0) q (by decide)
      rw [if_pos q', if_pos q]
      exact fin
    · have q' : ¬ nI x ≤ 0 := nI_ge (a := 0) (by omega) (by omega)
      have q3 : ¬ 12 ≤ nI x := nI_ge (b := 12) (a := x) (by omega) (by decide)
      rw [if_neg q', if_neg q, if_neg q3, int_pred (by omega) (by omega), nI_clamp (by omega)]
      have e0 : ω (i + 1) (x - 1) = μ 121 (44 + 2 * (x - 1) + 0) := hg (x - 1) (by omega) (by omega) 0 (by decide)
      have e1 : ω (i + 2) (x - 1) = μ 121 (44 + 2 * (x - 1) + 1) := hg (x - 1) (by omega) (by omega) 1 (by decide)
      have i0 : 44 + 2 * x - 2 = 44 + 2 * (x - 1) + 0 := by omega
      have i1 : 44 + 2 * x - 1 = 44 + 2 * (x - 1) + 1 := by omega
      rw [i0, i1, e0]
      by_cases q4 : μ 121 (44 + 2 * (x - 1) + 0) ≤ t
      · rw [if_pos q4, if_pos q4]
        exact fin
      · rw [if_neg q4, if_neg q4]
        have ex : nI x + (-1) = nI (x - 1) := nI_dec (by omega)
        have f1 : (st ω (i + 1) x (μ 121 (44 + 2 * (x - 1) + 0))) (i + 2) (x - 1) = μ 121 (44 + 2 * (x - 1) + 1) := by rw [st_nei (by omega)]; exact e1
        have f2 : (st μ 121 (44 + 2 * x) (μ 121 (44 + 2 * (x - 1) + 0))) 121 (44 + 2 * (x - 1) + 1) = μ 121 (44 + 2 * (x - 1) + 1) := st_ne (by omega)
        rw [ex, f1, f2]
        have gm : ∀ j, j ≠ x → ∀ q, q < 2 → (st (st μ 121 (44 + 2 * x) (μ 121 (44 + 2 * (x - 1) + 0))) 121 (44 + 2 * x + 1) (μ 121 (44 + 2 * (x - 1) + 1))) 121 (44 + 2 * j + q) = μ 121 (44 + 2 * j + q) := fun j x1 q x2 => by
          rw [st_ne (by omega), st_ne (by omega)]
        have gx : ∀ q, q < 2 → (st (st μ 121 (44 + 2 * x) (μ 121 (44 + 2 * (x - 1) + 0))) 121 (44 + 2 * x + 1) (μ 121 (44 + 2 * (x - 1) + 1))) 121 (44 + 2 * x + q) = μ 121 (44 + 2 * (x - 1) + q) := fun q x2 => by
          rcases (show q = 0 ∨ q = 1 by omega) with rfl | rfl
          · exact (st_ne (by omega)).trans st_eq
          · exact st_eq
        have wx : ∀ q, q < 2 → (st (st ω (i + 1) x (μ 121 (44 + 2 * (x - 1) + 0))) (i + 2) x (μ 121 (44 + 2 * (x - 1) + 1))) (i + 1 + q) x = μ 121 (44 + 2 * (x - 1) + q) := fun q x2 => by
          rcases (show q = 0 ∨ q = 1 by omega) with rfl | rfl
          · rw [Nat.add_zero, st_nei (i := i + 2) (by omega), st_eq]
          · rw [show i + 1 + 1 = i + 2 from rfl, st_eq]
        have wm : ∀ j, j ≠ x → ∀ q, q < 2 → (st (st ω (i + 1) x (μ 121 (44 + 2 * (x - 1) + 0))) (i + 2) x (μ 121 (44 + 2 * (x - 1) + 1))) (i + 1 + q) j = ω (i + 1 + q) j := fun j x1 q x2 => by
          have s1 : ∀ (m : Mem) (a : Nat) (v : Int32), (st m a x v) (i + 1 + q) j = m (i + 1 + q) j := fun m a v => by
            by_cases z : a = i + 1 + q
            · rw [z, st_ne (fun e => x1 e.symm)]
            · rw [st_nei z]
          rw [s1, s1]
        obtain ⟨y, ω', μ', r1, r2, r3, r4, r5, r6, r7, r8, r9, r10, r11⟩ := ih (x - 1) (st (st ω (i + 1) x (μ 121 (44 + 2 * (x - 1) + 0))) (i + 2) x (μ 121 (44 + 2 * (x - 1) + 1))) (st (st μ 121 (44 + 2 * x) (μ 121 (44 + 2 * (x - 1) + 0))) 121 (44 + 2 * x + 1) (μ 121 (44 + 2 * (x - 1) + 1))) (by omega) (by omega) (by rw [st_nei (by omega), st_nei (by omega)]; exact h1) (by rw [st_ne (by omega), st_ne (by omega)]; exact h2) (fun j x1 x2 q x3 => by
          by_cases z : j = x
          · rw [z, wx q x3, gx q x3]
          · rw [wm j z q x3, gm j z q x3]; exact hg j x1 z q x3)
        refine ⟨y, ω', μ', r1, r2, r3, r4, r5, r6, fun z hz => ?_, fun z hz => ?_, fun z hz => ?_, fun j x1 x2 => ?_, fun j x1 x2 => ?_⟩
        · rw [r7 z hz, st_nei (by omega), st_nei (by omega)]
        · rw [r8 z hz, st_nei (fun e => hz e.symm), st_nei (fun e => hz e.symm)]
        · rw [r9 z hz, st_ne (by omega), st_ne (by omega)]
        · obtain ⟨j2, y1, y2, y3⟩ := r10 j x1 x2
          by_cases z : j2 = x
          · refine ⟨x - 1, by omega, by omega, fun q hq => ?_⟩
            rw [y3 q hq, z, gx q hq]
          · refine ⟨j2, y1, z, fun q hq => ?_⟩
            rw [y3 q hq, gm j2 z q hq]
        · by_cases z : j = x - 1
          · obtain ⟨j2, y1, y2, y3⟩ := r11 x (by omega) (by omega)
            refine ⟨j2, y1, y2, fun q hq => ?_⟩
            rw [y3 q hq, gx q hq, z]
          · obtain ⟨j2, y1, y2, y3⟩ := r11 j x1 z
            refine ⟨j2, y1, y2, fun q hq => ?_⟩
            rw [y3 q hq, gm j x2 q hq]
