/-- a digit -/
def dg (x : Int32) : Int32 := if x < 48 then 0 else if 57 < x then 0 else 1
/-- an entry from its colon: well, place, tick, draft -/
def entE (c : Nat → Int32) (t : Int32) (p : Nat) : Bool × Nat × Int32 × Int32 :=
  if c p = 58 then (if dg (c (p + 1)) = 0 then (false, p + 1, t, 0) else (true, p + 2, t, c (p + 1) - 48)) else (false, p, t, 0)
def entD (c : Nat → Int32) : Nat → Int32 → Nat → Bool × Nat × Int32 × Int32
  | 0, t, p => entE c t p
  | fu + 1, t, p => if t ≤ 0 then entE c t p else if dg (c p) = 0 then entE c t p else entD c fu (10 * t + (c p - 48)) (p + 1)
def ent (c : Nat → Int32) (p : Nat) : Bool × Nat × Int32 × Int32 := if dg (c p) = 0 then (false, p, 0, 0) else entD c 3 (c p - 48) (p + 1)
def TXT (c : Nat → Int32) (L : Nat) : Prop := L ≤ 60 ∧ ∀ j, L ≤ j → c j = 0
theorem dg_n {x : Int32} (h : ¬ dg x = 0) : ∃ k, k ≤ 9 ∧ x = nI (48 + k) ∧ x - 48 = nI k := by
  obtain ⟨a, b⟩ := in_bd (v := x) (a := 48) (b := 57) (μ := fun _ _ => 0) h
  have a' : 48 ≤ x.toInt := a
  have b' : x.toInt ≤ 57 := b
  have e : x = nI (48 + (x.toInt.toNat - 48)) := by
    apply Int32.toInt_inj.mp
    rw [nI_toInt (by omega)]
    omega
  refine ⟨x.toInt.toNat - 48, by omega, e, ?_⟩
  conv => lhs; rw [e]
  exact (pk_sub (a := 48 + (x.toInt.toNat - 48)) (b := 48) (by omega)).trans (by rw [Nat.add_sub_cancel_left])
theorem txt_lt {c : Nat → Int32} {L p : Nat} (h : TXT c L) (hc : ¬ c p = 0) : p < L := by
  by_cases q : L ≤ p
  · exact absurd (h.2 p q) hc
  · omega
theorem dg_lt {c : Nat → Int32} {L p : Nat} (h : TXT c L) (hc : ¬ dg (c p) = 0) : p < L := txt_lt h (fun e => hc (by rw [e]; decide))
theorem cl_lt {c : Nat → Int32} {L p : Nat} {x : Int32} (h : TXT c L) (hc : c p = x) (hx : ¬ x = 0) : p < L := txt_lt h (fun e => hx (hc.symm.trans e))
/-- where an entry ends -/
def EOK (L p : Nat) (e : Bool × Nat × Int32 × Int32) : Prop := (e.1 = true → p ≤ e.2.1 ∧ e.2.1 ≤ L ∧ rg e.2.2.2 9) ∧ (e.1 = false → e.2.1 ≤ L)
theorem EOK.lo {L p k : Nat} {e : Bool × Nat × Int32 × Int32} (h : EOK L p e) (hk : k ≤ p) : EOK L k e := ⟨fun q => ⟨by have := (h.1 q).1; omega, (h.1 q).2⟩, h.2⟩
theorem entE_ok {c : Nat → Int32} {L p : Nat} {t : Int32} (h : TXT c L) (hp : p ≤ L) : EOK L (p + 2) (entE c t p) := by
  unfold entE
  by_cases q : c p = 58
  · have l1 := cl_lt h q (by decide)
    rw [if_pos q]
    by_cases q1 : dg (c (p + 1)) = 0
    · rw [if_pos q1]; exact ⟨fun z => Bool.noConfusion z, fun _ => l1⟩
    · have l2 := dg_lt h q1
      rw [if_neg q1]
      refine ⟨fun _ => ⟨Nat.le_refl _, l2, ?_⟩, fun z => Bool.noConfusion z⟩
      obtain ⟨k, k1, k2, k3⟩ := dg_n q1
      show rg (c (p + 1) - 48) 9
      rw [k3]
      exact rg_of k1 (by decide)
  · rw [if_neg q]; exact ⟨fun z => Bool.noConfusion z, fun _ => hp⟩
theorem entD_ok {c : Nat → Int32} {L : Nat} (h : TXT c L) : ∀ (fu : Nat) (t : Int32) (p : Nat), p ≤ L → EOK L (p + 2) (entD c fu t p) := by
  intro fu
  induction fu with
  | zero => intro t p hp; exact entE_ok h hp
  | succ fu ih =>
    intro t p hp
    unfold entD
    by_cases q : t ≤ 0
    · rw [if_pos q]; exact entE_ok h hp
    · rw [if_neg q]
      by_cases q1 : dg (c p) = 0
      · rw [if_pos q1]; exact entE_ok h hp
      · rw [if_neg q1]; exact (ih _ (p + 1) (dg_lt h q1)).lo (by omega)
theorem ent_ok {c : Nat → Int32} {L p : Nat} (h : TXT c L) (hp : p ≤ L) : EOK L (p + 3) (ent c p) := by
  unfold ent
  by_cases q1 : dg (c p) = 0
  · rw [if_pos q1]; exact ⟨fun z => Bool.noConfusion z, fun _ => hp⟩
  · rw [if_neg q1]; exact entD_ok h 3 _ (p + 1) (dg_lt h q1)
/-- the class's text -/
def TC (ω : Mem) (c : Nat → Int32) (L : Nat) : Prop := ω 118 1 = nI L ∧ ∀ j, j < L → ω 119 j = c j
/-- what the class's scan says of an entry -/
def FO (e : Bool × Nat × Int32 × Int32) (ω : Mem) : Int32 := if e.1 = true then f_X6_fault_4 (61 - e.2.1) 6 e.2.1 ω else nI e.2.1
theorem fstep {c : Nat → Int32} {L j : Nat} {s : Int32} {ω : Mem} (h : TXT c L) (hc : TC ω c L) (hj : j ≤ L) (h6 : ¬ s = 6) (h0 : f_X6_placeAfter s 0 ω = 7) : f_X6_fault_4 (61 - j) s j ω = if f_X6_placeAfter s (c j) ω = 7 then nI j else f_X6_fault_4 (61 - (j + 1)) (f_X6_placeAfter s (c j) ω) (j + 1) ω := by
  have hl := h.1
  obtain ⟨f, hf⟩ : ∃ f, 61 - (j + 1) = f := ⟨_, rfl⟩
  rw [hf, show 61 - j = f + 1 by omega]
  conv => lhs; unfold f_X6_fault_4
  rw [hc.1]
  by_cases q : L ≤ j
  · have e : L = j := by omega
    rw [if_pos (nI_le q (by omega)), if_neg h6, h.2 j q, if_pos h0, e]
  · rw [if_neg (nI_ge (by omega) (by omega)), if_neg (by omega), hc.2 j (by omega)]
theorem fE {c : Nat → Int32} {L p : Nat} {s t : Int32} {ω : Mem} (h : TXT c L) (hc : TC ω c L) (hp : p ≤ L) (h6 : ¬ s = 6) (h0 : f_X6_placeAfter s 0 ω = 7) (hs : f_X6_placeAfter s (c p) ω = if c p = 58 then 5 else 7) : f_X6_fault_4 (61 - p) s p ω = FO (entE c t p) ω := by
  rw [fstep h hc hp h6 h0, hs]
  unfold entE
  by_cases q : c p = 58
  · have l1 := cl_lt h q (by decide)
    rw [if_pos q, if_pos q, if_neg (by decide : ¬ (5 : Int32) = 7), fstep h hc l1 (by decide) rfl]
    have e5 : f_X6_placeAfter 5 (c (p + 1)) ω = if dg (c (p + 1)) = 0 then 7 else 6 := rfl
    rw [e5]
    by_cases q1 : dg (c (p + 1)) = 0
    · rw [if_pos q1, if_pos q1]
      rfl
    · rw [if_neg q1, if_neg q1, if_neg (by decide : ¬ (6 : Int32) = 7)]
      rfl
  · rw [if_neg q, if_neg q, if_pos rfl]
    rfl
theorem fD {c : Nat → Int32} {L : Nat} {ω : Mem} (h : TXT c L) (hc : TC ω c L) : ∀ (fu p n N : Nat), fu ≤ 3 → p ≤ L → 0 < n → n < N → N * 10 ^ fu ≤ 10000 → f_X6_fault_4 (61 - p) (nI (4 - fu)) p ω = FO (entD c fu (nI n) p) ω := by
  intro fu
  induction fu with
  | zero =>
    intro p n N h1 h2 h3 h4 h5
    exact fE h hc h2 (by decide) rfl rfl
  | succ fu ih =>
    intro p n N h1 h2 h3 h4 h5
    have hN : N ≤ 10000 := Nat.le_trans (Nat.le_mul_of_pos_right N (Nat.pos_of_ne_zero (by intro e; exact absurd (Nat.pow_eq_zero.mp e).1 (by decide)))) h5
    have hs : ∀ x : Int32, f_X6_placeAfter (nI (4 - (fu + 1))) x ω = if dg x = 0 then (if x = 58 then 5 else 7) else nI (4 - fu) := by
      intro x
      rcases (show fu = 0 ∨ fu = 1 ∨ fu = 2 by omega) with rfl | rfl | rfl <;> rfl
    have h6 : ¬ nI (4 - (fu + 1)) = 6 := fun e => by
      have := (nI_eq (b := 6) (by omega) (by decide)).1 e
      omega
    have h7 : ¬ nI (4 - fu) = 7 := fun e => by
      have := (nI_eq (b := 7) (by omega) (by decide)).1 e
      omega
    unfold entD
    rw [if_neg (show ¬ nI n ≤ 0 from nI_ge (a := 0) h3 (by omega))]
    by_cases q : dg (c p) = 0
    · rw [if_pos q]
      exact fE h hc h2 h6 (hs 0) (by rw [hs, if_pos q])
    · rw [if_neg q, fstep h hc h2 h6 (hs 0), hs, if_neg q, if_neg h7]
      obtain ⟨k, k1, k2, k3⟩ := dg_n q
      have e : 10 * nI n + (c p - 48) = nI (10 * n + k) := by
        rw [k3]
        have m : 10 * nI n = nI (10 * n) := (Int32.ofNat_mul 10 n).symm
        rw [m, nI_add]
      rw [e]
      exact ih (p + 1) (10 * n + k) (10 * N) (by omega) (dg_lt h q) (by omega) (by omega) (by rw [Nat.pow_succ] at h5; rw [Nat.mul_comm 10 N, Nat.mul_assoc, Nat.mul_comm 10]; exact h5)
theorem f_ent {c : Nat → Int32} {L p : Nat} {ω : Mem} (h : TXT c L) (hc : TC ω c L) (hp : p ≤ L) : f_X6_fault_4 (61 - p) 0 p ω = FO (ent c p) ω := by
  have hs : f_X6_placeAfter 0 (c p) ω = if c p = 48 then 4 else if dg (c p) = 0 then 7 else 1 := rfl
  rw [fstep h hc hp (by decide) rfl, hs]
  unfold ent
  by_cases q0 : c p = 48
  · have l1 := cl_lt h q0 (by decide)
    have d1 : ¬ dg (c p) = 0 := by rw [q0]; decide
    rw [if_pos q0, if_neg (by decide : ¬ (4 : Int32) = 7), if_neg d1]
    have e : c p - 48 = 0 := by rw [q0]; rfl
    rw [e]
    have e2 : entD c 3 0 (p + 1) = entE c 0 (p + 1) := rfl
    rw [e2]
    exact fE h hc l1 (by decide) rfl rfl
  · rw [if_neg q0]
    by_cases q : dg (c p) = 0
    · rw [if_pos q, if_pos q, if_pos rfl]
      rfl
    · rw [if_neg q, if_neg q, if_neg (by decide : ¬ (1 : Int32) = 7)]
      obtain ⟨k, k1, k2, k3⟩ := dg_n q
      rw [k3]
      have hk : 0 < k := by
        by_cases z : k = 0
        · rw [z] at k2; exact absurd k2 q0
        · omega
      exact fD h hc 3 (p + 1) k 10 (by decide) (dg_lt h q) hk (by omega) (by decide)
