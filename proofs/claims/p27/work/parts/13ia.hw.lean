/-! the history: n states, the rows rs -/
def HC (ω : Mem) (n : Nat) (rs : Nat → Nat → Int32) : Prop := (∀ j, j < 4 → isH (hB ω j)) ∧ (∀ i j, i < 4 → j < 4 → hB ω i = hB ω j → i = j) ∧ ω 52 1 = nI n ∧ n ≤ 4 ∧ ∀ j, j < n → SX (hB ω j) ω (rs j)
theorem HC.congr {ω ω' : Mem} {n : Nat} {rs : Nat → Nat → Int32} (h : HC ω n rs) (hc : ∀ z, 52 ≤ z → z < 118 → ω' z = ω z) : HC ω' n rs := by
  obtain ⟨h1, h2, h3, h4, h5⟩ := h
  have e : ∀ j, hB ω' j = hB ω j := fun j => by unfold hB; rw [hc 53 (by decide) (by decide)]
  refine ⟨fun j hj => by rw [e]; exact h1 j hj, fun i j hi hj q => ?_, by rw [hc 52 (by decide) (by decide)]; exact h3, h4, fun j hj => ?_⟩
  · rw [e, e] at q; exact h2 i j hi hj q
  · rw [e]
    have r := isH_rg (h1 j (by omega))
    exact (h5 j hj).congr (fun z hz => hc _ (by omega) (by omega))
/-- a ghost of the history and of one row -/
def hgm (n : Nat) (rs : Nat → Nat → Int32) (s : Nat → Int32) : Mem := fun i => if i = 120 then (fun _ => nI n) else if i = 123 then (fun z => rs (z / 108) (z % 108)) else s
theorem HC.hr {ω : Mem} {n : Nat} {rs : Nat → Nat → Int32} (s : Nat → Int32) (h : HC ω n rs) : HR ω (hgm n rs s) := by
  obtain ⟨h1, h2, h3, h4, h5⟩ := h
  have e4 : (hgm n rs s) 120 4 = nI n := rfl
  refine ⟨h1, h2, h3.trans e4.symm, ?_, fun j hj => ?_⟩
  · rw [e4]; exact rg_of h4 (by omega)
  · rw [e4, nI_clamp (by omega)] at hj
    refine (h5 j hj).cs (fun x hx => ?_)
    show rs ((108 * j + x) / 108) ((108 * j + x) % 108) = rs j x
    rw [show (108 * j + x) / 108 = j by omega, show (108 * j + x) % 108 = x by omega]
/-- a state is recorded: it is the latest row -/
theorem HC.rec {ω : Mem} {n : Nat} {rs : Nat → Nat → Int32} {s : Nat → Int32} (h : HC ω n rs) (hs : SX 1 ω s) : ∃ (n' : Nat) (rs' : Nat → Nat → Int32), (n = 4 ∧ n' = 3 ∨ n ≠ 4 ∧ n' = n) ∧ n' ≤ 3 ∧ HC (f_X1_record 1 ω) (n' + 1) rs' ∧ rs' n' = s ∧ (∀ j, j < n' → rs' j = if n = 4 then rs (j + 1) else rs j) ∧ ∀ z, (z < 52 ∨ 118 ≤ z) → (f_X1_record 1 ω) z = ω z := by
  have hn := h.2.2.2.1
  have hr := h.hr s
  have e4 : ((hgm n rs s) 120 4).toNatClampNeg = n := nI_clamp (by omega)
  obtain ⟨⟨a1, a2, a3, a4, a5⟩, fr⟩ := record_sim hr (show SX 1 ω ((hgm n rs s) 121) from hs)
  obtain ⟨n', k1, k2, k3, k4, k5⟩ := records_at (hgm n rs s) hr.2.2.2.1
  rw [e4] at k2
  refine ⟨n', fun j => if j = n' then s else if n = 4 then rs (j + 1) else rs j, k2, k1, ⟨a1, a2, a3.trans k3, by omega, fun j hj => ?_⟩, if_pos rfl, fun j hj => if_neg (by omega), fr⟩
  have q := a5 j (by rw [k3, nI_clamp (by omega)]; exact hj)
  show SX (hB (f_X1_record 1 ω) j) (f_X1_record 1 ω) (if j = n' then s else if n = 4 then rs (j + 1) else rs j)
  by_cases e : j = n'
  · subst e
    rw [if_pos rfl]
    exact q.cs (fun x hx => (k4 x hx).symm)
  · rw [if_neg e]
    refine q.cs (fun x hx => ?_)
    rw [k5 j x (by omega) hx, e4]
    by_cases z : n = 4
    · rw [if_pos z, if_pos z]
      show rs (j + 1) x = rs ((108 * (j + 1) + x) / 108) ((108 * (j + 1) + x) % 108)
      rw [show (108 * (j + 1) + x) / 108 = j + 1 by omega, show (108 * (j + 1) + x) % 108 = x by omega]
    · rw [if_neg z, if_neg z]
      show rs j x = rs ((108 * j + x) / 108) ((108 * j + x) % 108)
      rw [show (108 * j + x) / 108 = j by omega, show (108 * j + x) % 108 = x by omega]
set_option maxRecDepth 100000 in
/-- the latest state is taken back -/
theorem undo_at {ω : Mem} {n : Nat} {rs : Nat → Nat → Int32} (h : HC ω (n + 1) rs) : ∃ ω' : Mem, f_X7_undo ω = (nI n, ω') ∧ SX 1 ω' (rs n) ∧ HC ω' n rs ∧ ∀ z, z ≠ 52 → (z < 1 ∨ 17 ≤ z) → ω' z = ω z := by
  obtain ⟨h1, h2, h3, h4, h5⟩ := h
  have a2 : ¬ nI (n + 1) ≤ 0 := nI_ge (a := 0) (by omega) (by omega)
  have a3 : nI (n + 1) ≤ 4 := nI_le (b := 4) (by omega) (by decide)
  have e1 : nI (n + 1) - 1 = nI n := pk_sub (a := n + 1) (b := 1) (by omega)
  have em : (st ω 52 1 (nI n)) 52 1 = nI n := st_eq
  have e53 : (st ω 52 1 (nI n)) 53 = ω 53 := st_nei (by decide)
  have hb : isH (hB ω n) := h1 n (by omega)
  have hr := isH_rg hb
  have hf : 1 + 16 ≤ hB ω n ∨ hB ω n + 16 ≤ 1 := by omega
  have cc : CF 1 (st ω 52 1 (nI n)) (f_X5_copyFrom 1 (hB ω n) (st ω 52 1 (nI n))) := CF.copy hf
  have c1 : ∀ z, z ≠ 52 → (z < 1 ∨ 17 ≤ z) → (f_X5_copyFrom 1 (hB ω n) (st ω 52 1 (nI n))) z = ω z := fun z q1 q2 => (cc z (by omega)).trans (st_nei (fun e => q1 e.symm))
  have e52 : (f_X5_copyFrom 1 (hB ω n) (st ω 52 1 (nI n))) 52 1 = nI n := by rw [cc 52 (by omega), st_eq]
  have s0 : SX (hB ω n) (st ω 52 1 (nI n)) (rs n) := (h5 n (by omega)).congr (fun j hj => st_nei (by omega))
  have s1 : SX 1 (f_X5_copyFrom 1 (hB ω n) (st ω 52 1 (nI n))) (rs n) := s0.copy hf
  have e : f_X7_undo ω = (nI n, f_X5_copyFrom 1 (hB ω n) (st ω 52 1 (nI n))) := by
    unfold f_X7_undo f_X1_takeBack
    rw [h3, if_neg a2, if_pos a3, e1, if_neg (by decide : ¬ (1 : Int32) = 0), em, nI_clamp (by omega), e53]
    have hh : (ω 53 n).toNatClampNeg = hB ω n := rfl
    rw [hh]
    exact Prod.ext e52 rfl
  generalize f_X5_copyFrom 1 (hB ω n) (st ω 52 1 (nI n)) = ω' at *
  have eh : ∀ j, hB ω' j = hB ω j := fun j => by
    unfold hB
    rw [c1 53 (by decide) (by decide)]
  refine ⟨ω', e, s1, ⟨fun j hj => by rw [eh]; exact h1 j hj, fun i j hi hj q => ?_, e52, by omega, fun j hj => ?_⟩, c1⟩
  · rw [eh, eh] at q; exact h2 i j hi hj q
  · rw [eh]
    have r := isH_rg (h1 j (by omega))
    exact (h5 j (by omega)).congr (fun z hz => c1 _ (by omega) (by omega))
theorem undo_no {ω : Mem} (h : ω 52 1 = 0) : f_X7_undo ω = (-5, ω) := by
  unfold f_X7_undo f_X1_takeBack
  have p : (0 : Int32) ≤ 0 := by decide
  rw [h, if_pos p]
  exact if_pos rfl
/-- a history: its states' contents left out -/
def HW (ω _μ : Mem) : Prop := ∃ (n : Nat) (rs : Nat → Nat → Int32), HC ω n rs
theorem HW.congr {ω μ ω' μ' : Mem} (h : HW ω μ) (hc : ∀ z, 52 ≤ z → z < 118 → ω' z = ω z) (_h4 : μ' 120 4 = μ 120 4) (_h123 : μ' 123 = μ 123) : HW ω' μ' := by
  obtain ⟨n, rs, q⟩ := h
  exact ⟨n, rs, q.congr hc⟩
theorem recW {ω μ : Mem} (h : HW ω μ) (h1 : SX 1 ω (μ 121)) : HW (f_X1_record 1 ω) (f_X8_records μ) ∧ ∀ z, (z < 52 ∨ 118 ≤ z) → (f_X1_record 1 ω) z = ω z := by
  obtain ⟨n, rs, q⟩ := h
  obtain ⟨n', rs', -, -, q', -, -, fr⟩ := q.rec h1
  exact ⟨⟨n' + 1, rs', q'⟩, fr⟩
