/-! the relation between a state's cells (base B, memory ω) and the model's row s -/
def cv (w : Nat) (x : Int32) : Int32 := if w = 2 ∨ w = 3 ∨ w = 4 ∨ w = 6 then bb x else x
def RB (β s : Nat → Int32) (k : Nat) : Prop := ∀ w, w < 10 → cv w (β w) = s (68 + 10 * k + w)
def RS (B : Nat) (ω : Mem) (s : Nat → Int32) : Prop :=
  (∀ k, k < 4 → ω (B + 2) k = s k) ∧ (∀ k, k < 4 → ω B (4 + k) = s (4 + k)) ∧ (∀ k, k < 4 → ω (B + 15) k = s (8 + k)) ∧
  (ω (B + 11) 4 = s 12 ∧ rg (s 12) 10 ∧ ∀ j, j < (s 12).toNatClampNeg → ∀ i, i < 3 → ω (B + 12 + i) j = s (13 + 3 * ((s 12).toNatClampNeg - 1 - j) + i)) ∧
  (ω (B + 8) 2 = s 43 ∧ rg (s 43) 12 ∧ ∀ j, j < (s 43).toNatClampNeg → ∀ i, i < 2 → ω (B + 9 + i) j = s (44 + 2 * j + i)) ∧
  ∀ k, k < 4 → RB (ω (B + 4 + k)) s k
/-- a burner's own bounds -/
def IB (s : Nat → Int32) (k : Nat) : Prop := rg (s (68 + 10 * k + 0)) 2 ∧ rg (s (68 + 10 * k + 1)) 2 ∧ (s (68 + 10 * k + 4) = 0 ∨ ¬ s (68 + 10 * k + 1) = 0) ∧ rg (s (68 + 10 * k + 5)) 900
/-- the state's bounds: settings, burners, the plan's drafts, the most dark ticks; tick t, gas at most g -/
def IV (t g : Nat) (s : Nat → Int32) : Prop :=
  (100 ≤ (s 0).toInt ∧ (s 0).toInt ≤ 450) ∧ rg (s 2) 50 ∧ (s 4 = nI t ∧ rg (s 5) g) ∧ 0 ≤ (s 7).toInt ∧ ((s 43).toNatClampNeg ≤ 12 ∧ ∀ j, j < (s 43).toNatClampNeg → rg (s (44 + 2 * j + 1)) 9) ∧ ∀ k, k < 4 → IB s k
theorem row_st {μ : Mem} {k : Nat} {v : Int32} : (st μ 121 k v) 121 = upd (μ 121) k v := by
  unfold st va_up
  rw [if_pos rfl]
theorem RS.b {B k w : Nat} {ω : Mem} {s : Nat → Int32} {v v' : Int32} (h : RS B ω s) (hk : k < 4) (hw : w < 10) (hv : cv w v = v') : RS B (st ω (B + 4 + k) w v) (upd s (68 + 10 * k + w) v') := by
  obtain ⟨h1, h2, h3, ⟨h4, h5, h6⟩, ⟨h7, h8, h9⟩, h10⟩ := h
  have e12 : upd s (68 + 10 * k + w) v' 12 = s 12 := pk_un (by omega)
  have e43 : upd s (68 + 10 * k + w) v' 43 = s 43 := pk_un (by omega)
  refine ⟨fun j hj => ?_, fun j hj => ?_, fun j hj => ?_, ⟨?_, ?_, fun j hj i hi => ?_⟩, ⟨?_, ?_, fun j hj i hi => ?_⟩, fun j hj => ?_⟩
  · rw [st_nei (by omega), pk_un (by omega)]; exact h1 j hj
  · rw [st_nei (by omega), pk_un (by omega)]; exact h2 j hj
  · rw [st_nei (by omega), pk_un (by omega)]; exact h3 j hj
  · rw [st_nei (by omega), e12]; exact h4
  · rw [e12]; exact h5
  · rw [e12] at hj ⊢
    have := h5.2
    rw [st_nei (by omega), pk_un (by omega)]; exact h6 j hj i hi
  · rw [st_nei (by omega), e43]; exact h7
  · rw [e43]; exact h8
  · rw [e43] at hj
    have := h8.2
    rw [st_nei (by omega), pk_un (by omega)]; exact h9 j hj i hi
  · intro z hz
    by_cases hjk : j = k
    · subst hjk
      by_cases hzw : z = w
      · subst hzw
        rw [st_eq, pk_us]; exact hv
      · rw [st_ne (fun e => hzw e.symm), pk_un (by omega)]; exact h10 j hj z hz
    · rw [st_nei (by omega), pk_un (by omega)]; exact h10 j hj z hz
theorem RS.c {B k : Nat} {ω : Mem} {s : Nat → Int32} {v : Int32} (h : RS B ω s) (hk : k < 4) : RS B (st ω B (4 + k) v) (upd s (4 + k) v) := by
  obtain ⟨h1, h2, h3, ⟨h4, h5, h6⟩, ⟨h7, h8, h9⟩, h10⟩ := h
  have e12 : upd s (4 + k) v 12 = s 12 := pk_un (by omega)
  have e43 : upd s (4 + k) v 43 = s 43 := pk_un (by omega)
  refine ⟨fun j hj => ?_, fun j hj => ?_, fun j hj => ?_, ⟨?_, ?_, fun j hj i hi => ?_⟩, ⟨?_, ?_, fun j hj i hi => ?_⟩, fun j hj => ?_⟩
  · rw [st_nei (by omega), pk_un (by omega)]; exact h1 j hj
  · by_cases hjk : j = k
    · subst hjk
      rw [st_eq, pk_us]
    · rw [st_ne (by omega), pk_un (by omega)]; exact h2 j hj
  · rw [st_nei (by omega), pk_un (by omega)]; exact h3 j hj
  · rw [st_nei (by omega), e12]; exact h4
  · rw [e12]; exact h5
  · rw [e12] at hj ⊢
    have := h5.2
    rw [st_nei (by omega), pk_un (by omega)]; exact h6 j hj i hi
  · rw [st_nei (by omega), e43]; exact h7
  · rw [e43]; exact h8
  · rw [e43] at hj
    have := h8.2
    rw [st_nei (by omega), pk_un (by omega)]; exact h9 j hj i hi
  · intro z hz
    rw [st_nei (by omega), pk_un (by omega)]; exact h10 j hj z hz
theorem RS.set {B k : Nat} {ω : Mem} {s : Nat → Int32} {v : Int32} (h : RS B ω s) (hk : k < 4) : RS B (st ω (B + 2) k v) (upd s k v) := by
  obtain ⟨h1, h2, h3, ⟨h4, h5, h6⟩, ⟨h7, h8, h9⟩, h10⟩ := h
  have e12 : upd s k v 12 = s 12 := pk_un (by omega)
  have e43 : upd s k v 43 = s 43 := pk_un (by omega)
  refine ⟨fun j hj => ?_, fun j hj => ?_, fun j hj => ?_, ⟨?_, ?_, fun j hj i hi => ?_⟩, ⟨?_, ?_, fun j hj i hi => ?_⟩, fun j hj => ?_⟩
  · by_cases hjk : j = k
    · subst hjk
      rw [st_eq, pk_us]
    · rw [st_ne (by omega), pk_un (by omega)]; exact h1 j hj
  · rw [st_nei (by omega), pk_un (by omega)]; exact h2 j hj
  · rw [st_nei (by omega), pk_un (by omega)]; exact h3 j hj
  · rw [st_nei (by omega), e12]; exact h4
  · rw [e12]; exact h5
  · rw [e12] at hj ⊢
    have := h5.2
    rw [st_nei (by omega), pk_un (by omega)]; exact h6 j hj i hi
  · rw [st_nei (by omega), e43]; exact h7
  · rw [e43]; exact h8
  · rw [e43] at hj
    have := h8.2
    rw [st_nei (by omega), pk_un (by omega)]; exact h9 j hj i hi
  · intro z hz
    rw [st_nei (by omega), pk_un (by omega)]; exact h10 j hj z hz
/-- only the state's own cells matter -/
theorem RS.congr {B : Nat} {ω ω' : Mem} {s : Nat → Int32} (h : RS B ω s) (hc : ∀ j, j < 16 → ω' (B + j) = ω (B + j)) : RS B ω' s := by
  obtain ⟨h1, h2, h3, ⟨h4, h5, h6⟩, ⟨h7, h8, h9⟩, h10⟩ := h
  have c0 := hc 0 (by decide)
  rw [Nat.add_zero] at c0
  refine ⟨fun j hj => ?_, fun j hj => ?_, fun j hj => ?_, ⟨?_, h5, fun j hj i hi => ?_⟩, ⟨?_, h8, fun j hj i hi => ?_⟩, fun j hj => ?_⟩
  · rw [hc 2 (by decide)]; exact h1 j hj
  · rw [c0]; exact h2 j hj
  · rw [hc 15 (by decide)]; exact h3 j hj
  · rw [hc 11 (by decide)]; exact h4
  · rw [Nat.add_assoc, hc (12 + i) (by omega), ← Nat.add_assoc]; exact h6 j hj i hi
  · rw [hc 8 (by decide)]; exact h7
  · rw [Nat.add_assoc, hc (9 + i) (by omega), ← Nat.add_assoc]; exact h9 j hj i hi
  · rw [Nat.add_assoc, hc (4 + j) (by omega), ← Nat.add_assoc]; exact h10 j hj
