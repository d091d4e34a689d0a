/-! a new event on both sides -/
def noteS (ev : Int32) (e0 : Nat) (b ti : Int32) (s : Nat → Int32) : Nat → Int32 := fun j =>
  let n := (s 12).toNatClampNeg
  let m := if n = 10 then 9 else n
  if j = 12 then nI (m + 1) else if j = 8 + e0 then s (8 + e0) + 1 else if 13 + 3 * m ≤ j ∧ j < 13 + 3 * m + 3 then (if j = 13 + 3 * m then ev else if j = 13 + 3 * m + 1 then b else ti) else if n = 10 ∧ 13 ≤ j ∧ j < 40 then s (j + 3) else s j
theorem tells14 : ∀ (fu : Nat) (ev : Nat) (b : Int32) (j : Nat) (μ : Mem), 27 < j + fu → j ≤ 27 → ∃ μ' : Mem, f_X8_tells_14 fu ev b j μ = f_X8_tells_57 ev b (st μ' 121 12 (μ' 121 12 - 1)) ∧ (∀ i, i ≠ 121 → μ' i = μ i) ∧ ∀ z, μ' 121 z = if 13 + j ≤ z ∧ z < 40 then μ 121 (z + 3) else μ 121 z := by
  intro fu
  induction fu with
  | zero => intro ev b j μ h1 h2; omega
  | succ fu ih =>
    intro ev b j μ h1 h2
    unfold f_X8_tells_14
    by_cases h : 27 ≤ j
    · rw [if_pos h]
      exact ⟨μ, rfl, fun _ _ => rfl, fun z => by rw [if_neg (by omega)]⟩
    · rw [if_neg h]
      obtain ⟨μ', e, f1, f2⟩ := ih ev b (j + 1) (st μ 121 (13 + j) (μ 121 (13 + j + 3))) (by omega) (by omega)
      refine ⟨μ', e, fun i hi => (f1 i hi).trans (st_nei (fun z => hi z.symm)), fun z => ?_⟩
      rw [f2 z]
      by_cases hz : z = 13 + j
      · rw [if_neg (by omega), if_pos (by omega), hz, st_eq]
      · by_cases hr : 13 + (j + 1) ≤ z ∧ z < 40
        · rw [if_pos hr, if_pos (by omega), st_ne (by omega)]
        · rw [if_neg hr, if_neg (by omega), st_ne (by omega)]
theorem tells57 (ev : Nat) (b : Int32) (μ : Mem) (hn : rg (μ 121 12) 9) (hev : ev < 4) : (f_X8_tells_57 ev b μ) 121 = (fun j => if j = 12 then nI ((μ 121 12).toNatClampNeg + 1) else if j = 8 + ev then μ 121 (8 + ev) + 1 else if 13 + 3 * (μ 121 12).toNatClampNeg ≤ j ∧ j < 13 + 3 * (μ 121 12).toNatClampNeg + 3 then (if j = 13 + 3 * (μ 121 12).toNatClampNeg then nI ev else if j = 13 + 3 * (μ 121 12).toNatClampNeg + 1 then b else μ 121 4) else μ 121 j) ∧ ∀ i, i ≠ 121 → (f_X8_tells_57 ev b μ) i = μ i := by
  have h9 := hn.2
  have e12 := hn.1
  unfold f_X8_tells_57 f_X8_tells_100
  generalize hm : (μ 121 12).toNatClampNeg = m at *
  have q4 : (st (st μ 121 (13 + 3 * m) (nI ev)) 121 (13 + 3 * m + 1) b) 121 4 = μ 121 4 := by rw [st_ne (by omega), st_ne (by omega)]
  rw [q4]
  have q12 : (st (st (st μ 121 (13 + 3 * m) (nI ev)) 121 (13 + 3 * m + 1) b) 121 (13 + 3 * m + 2) (μ 121 4)) 121 12 = nI m := by rw [st_ne (by omega), st_ne (by omega), st_ne (by omega)]; exact e12
  rw [q12, nI_1]
  have q8 : (st (st (st (st μ 121 (13 + 3 * m) (nI ev)) 121 (13 + 3 * m + 1) b) 121 (13 + 3 * m + 2) (μ 121 4)) 121 12 (nI (m + 1))) 121 (8 + ev) = μ 121 (8 + ev) := by rw [st_ne (by omega), st_ne (by omega), st_ne (by omega), st_ne (by omega)]
  rw [q8]
  refine ⟨?_, fun i hi => by rw [st_nei (fun z => hi z.symm), st_nei (fun z => hi z.symm), st_nei (fun z => hi z.symm), st_nei (fun z => hi z.symm), st_nei (fun z => hi z.symm)]⟩
  funext j
  by_cases h8 : j = 8 + ev
  · rw [h8, st_eq, if_neg (by omega), if_pos rfl]
  · rw [st_ne (fun z => h8 z.symm)]
    by_cases h12 : j = 12
    · rw [h12, st_eq, if_pos rfl]
    · rw [st_ne (fun z => h12 z.symm), if_neg h12, if_neg h8]
      by_cases a2 : j = 13 + 3 * m + 2
      · rw [a2, st_eq, if_pos (by omega), if_neg (by omega), if_neg (by omega)]
      · rw [st_ne (fun z => a2 z.symm)]
        by_cases a1 : j = 13 + 3 * m + 1
        · rw [a1, st_eq, if_pos (by omega), if_neg (by omega), if_pos rfl]
        · rw [st_ne (fun z => a1 z.symm)]
          by_cases a0 : j = 13 + 3 * m
          · rw [a0, st_eq, if_pos (by omega), if_pos rfl]
          · rw [st_ne (fun z => a0 z.symm), if_neg (by omega)]
theorem tells_row (ev : Nat) (b : Int32) (μ : Mem) (hn : rg (μ 121 12) 10) (hev : ev < 4) : (f_X8_tells ev b μ) 121 = noteS (nI ev) ev b (μ 121 4) (μ 121) ∧ ∀ i, i ≠ 121 → (f_X8_tells ev b μ) i = μ i := by
  have h10 := hn.2
  have e12 := hn.1
  unfold f_X8_tells
  by_cases h : μ 121 12 = 10
  · rw [if_pos h]
    have hm : (μ 121 12).toNatClampNeg = 10 := by rw [h]; rfl
    obtain ⟨μ', e, f1, f2⟩ := tells14 28 ev b 0 μ (by omega) (by omega)
    rw [e]
    have g12 : μ' 121 12 = 10 := by rw [f2 12, if_neg (by omega)]; exact h
    have k12 : (st μ' 121 12 (μ' 121 12 - 1)) 121 12 = nI 9 := by rw [st_eq, g12]; decide
    have hr : rg ((st μ' 121 12 (μ' 121 12 - 1)) 121 12) 9 := by rw [k12]; exact rg_of (by decide) (by decide)
    obtain ⟨a, c⟩ := tells57 ev b (st μ' 121 12 (μ' 121 12 - 1)) hr hev
    refine ⟨?_, fun i hi => ((c i hi).trans (st_nei (fun z => hi z.symm))).trans (f1 i hi)⟩
    rw [a]
    have m9 : ((st μ' 121 12 (μ' 121 12 - 1)) 121 12).toNatClampNeg = 9 := by rw [k12]; rfl
    funext j
    unfold noteS
    rw [m9, hm]
    simp only [if_true]
    by_cases j12 : j = 12
    · rw [if_pos j12, if_pos j12]
    · rw [if_neg j12, if_neg j12]
      by_cases j8 : j = 8 + ev
      · rw [if_pos j8, if_pos j8, st_ne (by omega), f2, if_neg (by omega)]
      · rw [if_neg j8, if_neg j8]
        by_cases jr : 13 + 3 * 9 ≤ j ∧ j < 13 + 3 * 9 + 3
        · rw [if_pos jr, if_pos jr]
          have g4 : (st μ' 121 12 (μ' 121 12 - 1)) 121 4 = μ 121 4 := by rw [st_ne (by omega), f2, if_neg (by omega)]
          rw [g4]
        · rw [if_neg jr, if_neg jr, st_ne (fun z => j12 z.symm), f2 j]
          by_cases jq : 13 ≤ j ∧ j < 40
          · rw [if_pos (by omega), if_pos ⟨trivial, jq⟩]
          · rw [if_neg (by omega), if_neg (fun z => jq z.2)]
  · rw [if_neg h]
    have hr := rg_ne (n := 9) hn (by decide) h
    have hm : (μ 121 12).toNatClampNeg ≠ 10 := by have := hr.2; omega
    obtain ⟨a, c⟩ := tells57 ev b μ hr hev
    refine ⟨?_, c⟩
    rw [a]
    funext j
    unfold noteS
    simp only [if_neg hm]
    by_cases j12 : j = 12
    · rw [if_pos j12, if_pos j12]
    · rw [if_neg j12, if_neg j12]
      by_cases j8 : j = 8 + ev
      · rw [if_pos j8, if_pos j8]
      · rw [if_neg j8, if_neg j8]
        by_cases jr : 13 + 3 * (μ 121 12).toNatClampNeg ≤ j ∧ j < 13 + 3 * (μ 121 12).toNatClampNeg + 3
        · rw [if_pos jr, if_pos jr]
        · rw [if_neg jr, if_neg jr, if_neg (fun z => hm z.1)]
