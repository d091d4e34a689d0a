theorem st_row {m : Mem} {i k : Nat} {v : Int32} : (st m i k v) i = upd (m i) k v := by
  unfold st va_up
  rw [if_pos rfl]
/-- the model in the midst of an entry: at place p, well (1) or not (0) -/
def MS (μ0 μ : Mem) (p : Nat) (w : Int32) : Prop := μ 120 12 = nI p ∧ bb (μ 120 13) = w ∧ (∀ k, k ≠ 12 → k ≠ 13 → μ 120 k = μ0 120 k) ∧ ∀ i, i ≠ 120 → μ i = μ0 i
/-- the model's text -/
def TM (μ : Mem) (c : Nat → Int32) (L : Nat) : Prop := μ 120 8 = nI L ∧ ∀ j, c j = if L ≤ j then 0 else μ 125 j
theorem MS.st {μ0 μ : Mem} {p q : Nat} {w w' v : Int32} (h : MS μ0 μ p w) (hw : bb w' = w') (hv : v = nI q) : MS μ0 (st (st μ 120 13 w') 120 12 v) q w' := by
  obtain ⟨h1, h2, h3, h4⟩ := h
  refine ⟨?_, ?_, fun k k1 k2 => ?_, fun i hi => ?_⟩
  · rw [st_eq, hv]
  · rw [st_ne (by decide), st_eq, hw]
  · rw [st_ne (fun e => k1 e.symm), st_ne (fun e => k2 e.symm)]; exact h3 k k1 k2
  · rw [st_nei (fun e => hi e.symm), st_nei (fun e => hi e.symm)]; exact h4 i hi
theorem MS.sign {μ0 μ : Mem} {c : Nat → Int32} {L p : Nat} {w : Int32} (h : MS μ0 μ p w) (ht : TM μ0 c L) (hL : L ≤ 60) (hp : p ≤ 60) : f_X8_sign μ = c p := by
  unfold f_X8_sign
  rw [h.2.2.1 8 (by decide) (by decide), ht.1, h.1, nI_clamp (by omega), nI_clamp (by omega), h.2.2.2 125 (by decide), ht.2]
theorem in_dg {x : Int32} {μ : Mem} : f_X8_in x 48 57 μ = dg x := rfl
theorem in_one {x a : Int32} {μ : Mem} : f_X8_in x a a μ = if x = a then 1 else 0 := by
  unfold f_X8_in
  by_cases q : x = a
  · rw [if_pos q, q, if_neg Int32.lt_irrefl, if_neg Int32.lt_irrefl]
  · rw [if_neg q]
    by_cases q1 : x < a
    · rw [if_pos q1]
    · rw [if_neg q1, if_pos]
      rw [Int32.lt_iff_toInt_lt] at q1 ⊢
      have : ¬ x.toInt = a.toInt := fun e => q (Int32.toInt_inj.mp e)
      omega
theorem tk_ok {μ0 μ : Mem} {c : Nat → Int32} {L p : Nat} {a b : Int32} (h : MS μ0 μ p 1) (ht : TM μ0 c L) (hL : L ≤ 60) (hp : p ≤ 60) (hi : ¬ f_X8_in (c p) a b μ = 0) : (f_X8_takes a b μ).1 = c p - a ∧ MS μ0 (f_X8_takes a b μ).2 (p + 1) 1 := by
  have es := h.sign ht hL hp
  rcases takes_cases a b μ with ⟨x, -⟩ | ⟨-, -, e⟩
  · rw [es] at x
    rcases x with x | x
    · rw [h.2.1] at x; exact absurd x (by decide)
    · exact absurd x hi
  · rw [e, es]
    exact ⟨rfl, h.st rfl (by rw [h.1, nI_1])⟩
theorem tk_no {μ0 μ : Mem} {c : Nat → Int32} {L p : Nat} {a b : Int32} (h : MS μ0 μ p 1) (ht : TM μ0 c L) (hL : L ≤ 60) (hp : p ≤ 60) (hi : f_X8_in (c p) a b μ = 0) : MS μ0 (f_X8_takes a b μ).2 p 0 := by
  have es := h.sign ht hL hp
  rcases takes_cases a b μ with ⟨-, e⟩ | ⟨-, x, -⟩
  · rw [e]
    exact h.st rfl h.1
  · rw [es] at x; exact absurd hi x
theorem tk_bad {μ0 μ : Mem} {p : Nat} {a b : Int32} (h : MS μ0 μ p 0) : MS μ0 (f_X8_takes a b μ).2 p 0 := by
  rcases takes_cases a b μ with ⟨-, e⟩ | ⟨x, -⟩
  · rw [e]
    exact h.st rfl h.1
  · exact absurd h.2.1 x
/-- what an entry leaves in the model -/
def RO (e : Bool × Nat × Int32 × Int32) (μ0 μ : Mem) : Prop :=
  if e.1 = true then μ 120 12 = nI e.2.1 ∧ bb (μ 120 13) = 1 ∧ μ 120 11 = μ0 120 11 + 1 ∧ (∀ k, k ≠ 11 → k ≠ 12 → k ≠ 13 → μ 120 k = μ0 120 k) ∧ μ 126 = upd (μ0 126) (μ0 120 11).toNatClampNeg e.2.2.1 ∧ μ 127 = upd (μ0 127) (μ0 120 11).toNatClampNeg e.2.2.2 ∧ ∀ i, i ≠ 120 → i ≠ 126 → i ≠ 127 → μ i = μ0 i
  else MS μ0 μ e.2.1 0
theorem m_bad {μ0 μ : Mem} {p : Nat} {t : Int32} (h : MS μ0 μ p 0) : MS μ0 (f_X8_readsEntry_61 t μ) p 0 := by
  unfold f_X8_readsEntry_61 f_X8_readsEntry_79
  have h2 : MS μ0 (f_X8_takes 48 57 (f_X8_takes 58 58 μ).2).2 p 0 := tk_bad (tk_bad h)
  rw [if_pos h2.2.1]
  exact h2
theorem m_E {μ0 μ : Mem} {c : Nat → Int32} {L p : Nat} {t : Int32} (hx : TXT c L) (ht : TM μ0 c L) (h : MS μ0 μ p 1) (hp : p ≤ L) : RO (entE c t p) μ0 (f_X8_readsEntry_61 t μ) := by
  have hL := hx.1
  unfold f_X8_readsEntry_61 f_X8_readsEntry_79 entE
  by_cases q : c p = 58
  · have l1 := cl_lt hx q (by decide)
    rw [if_pos q]
    obtain ⟨-, a⟩ := tk_ok (a := 58) (b := 58) h ht hL (by omega) (by rw [in_one, if_pos q]; decide)
    by_cases q1 : dg (c (p + 1)) = 0
    · rw [if_pos q1]
      have b := tk_no (a := 48) (b := 57) a ht hL (by omega) (by rw [in_dg]; exact q1)
      rw [if_pos b.2.1]
      exact b
    · rw [if_neg q1]
      obtain ⟨b1, b2⟩ := tk_ok (a := 48) (b := 57) a ht hL (by omega) (by rw [in_dg]; exact q1)
      have b3 : ¬ bb ((f_X8_takes 48 57 (f_X8_takes 58 58 μ).2).2 120 13) = 0 := by rw [b2.2.1]; decide
      rw [if_neg b3, b1]
      generalize (f_X8_takes 48 57 (f_X8_takes 58 58 μ).2).2 = m at *
      obtain ⟨m1, m2, m3, m4⟩ := b2
      have e11 := m3 11 (by decide) (by decide)
      have e126 := m4 126 (by decide)
      have e127 := m4 127 (by decide)
      have n1 : (st m 126 (m 120 11).toNatClampNeg t) 120 11 = m 120 11 := rfl
      have n2 : (st (st m 126 (m 120 11).toNatClampNeg t) 127 (m 120 11).toNatClampNeg (c (p + 1) - 48)) 120 11 = m 120 11 := rfl
      rw [n1, n2]
      show RO (true, p + 2, t, c (p + 1) - 48) μ0 _
      unfold RO
      rw [if_pos rfl]
      refine ⟨?_, ?_, ?_, fun k k1 k2 k3 => ?_, ?_, ?_, fun i i1 i2 i3 => ?_⟩
      · rw [st_ne (by decide)]; exact m1
      · rw [st_ne (by decide)]; exact m2
      · rw [st_eq, e11]
      · rw [st_ne (fun e => k1 e.symm)]; exact m3 k k2 k3
      · rw [st_nei (by decide), st_nei (by decide), ← e126, ← e11]
        exact st_row
      · rw [st_nei (by decide), ← e127, ← e11]
        exact st_row
      · rw [st_nei (fun e => i1 e.symm), st_nei (fun e => i3 e.symm), st_nei (fun e => i2 e.symm)]; exact m4 i i1
  · rw [if_neg q]
    have a := tk_no (a := 58) (b := 58) h ht hL (by omega) (by rw [in_one, if_neg q])
    have b : MS μ0 (f_X8_takes 48 57 (f_X8_takes 58 58 μ).2).2 p 0 := tk_bad a
    rw [if_pos b.2.1]
    exact b
theorem m_D {μ0 : Mem} {c : Nat → Int32} {L : Nat} (hx : TXT c L) (ht : TM μ0 c L) : ∀ (fu j p : Nat) (t : Int32) (μ : Mem), j + fu = 4 → MS μ0 μ p 1 → p ≤ L → RO (entD c fu t p) μ0 (f_X8_readsEntry_11 (fu + 2) t j μ) := by
  have hL := hx.1
  intro fu
  induction fu with
  | zero =>
    intro j p t μ hj h hp
    unfold f_X8_readsEntry_11 entD
    rw [if_pos (by omega)]
    exact m_E hx ht h hp
  | succ fu ih =>
    intro j p t μ hj h hp
    unfold entD
    conv => arg 3; unfold f_X8_readsEntry_11
    have hb : ¬ bb (μ 120 13) = 0 := by rw [h.2.1]; decide
    rw [if_neg (show ¬ 4 ≤ j by omega), if_neg hb]
    by_cases q : t ≤ 0
    · rw [if_pos q, if_pos q]; exact m_E hx ht h hp
    · rw [if_neg q, if_neg q, h.sign ht hL (by omega), in_dg]
      by_cases q1 : dg (c p) = 0
      · rw [if_pos q1, if_pos q1]; exact m_E hx ht h hp
      · rw [if_neg q1, if_neg q1]
        obtain ⟨b1, b2⟩ := tk_ok (a := 48) (b := 57) h ht hL (by omega) (by rw [in_dg]; exact q1)
        rw [b1]
        exact ih (j + 1) (p + 1) _ _ (by omega) b2 (dg_lt hx q1)
theorem m_ent {μ0 μ : Mem} {c : Nat → Int32} {L p : Nat} (hx : TXT c L) (ht : TM μ0 c L) (h : MS μ0 μ p 1) (hp : p ≤ L) : RO (ent c p) μ0 (f_X8_readsEntry μ) := by
  have hL := hx.1
  unfold f_X8_readsEntry ent
  by_cases q1 : dg (c p) = 0
  · rw [if_pos q1]
    have b := tk_no (a := 48) (b := 57) h ht hL (by omega) (by rw [in_dg]; exact q1)
    unfold f_X8_readsEntry_11
    rw [if_neg (by decide), if_pos b.2.1]
    exact m_bad b
  · rw [if_neg q1]
    obtain ⟨b1, b2⟩ := tk_ok (a := 48) (b := 57) h ht hL (by omega) (by rw [in_dg]; exact q1)
    rw [b1]
    exact m_D hx ht 3 1 (p + 1) _ _ rfl b2 (dg_lt hx q1)
