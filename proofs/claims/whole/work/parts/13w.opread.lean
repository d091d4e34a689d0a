theorem u_in0 {k n' : Nat} {n : Int32} {μ : Mem} : ∀ (m e fu : Nat), e + m = k → f_X8_unlikeTicks_17 (fu + m) n k 0 e μ = f_X8_unlikeTicks_17 fu n k 0 k μ := by
  intro m
  induction m with
  | zero => intro e fu h; rw [show e = k by omega]; rfl
  | succ m ih =>
    intro e fu h
    rw [show fu + (m + 1) = (fu + m) + 1 by omega]
    conv => lhs; unfold f_X8_unlikeTicks_17
    rw [if_neg (show ¬ k ≤ e by omega), if_pos rfl]
    exact ih (e + 1) fu (by omega)
theorem u_in1 {k : Nat} {n : Int32} {μ : Mem} : ∀ (m e fu : Nat), e + m = k → ((∃ e', e ≤ e' ∧ e' < k ∧ μ 126 e' = μ 126 k) ∧ f_X8_unlikeTicks_17 (fu + m) n k 1 e μ = f_X8_unlikeTicks_17 fu n k 0 k μ) ∨ ((∀ e', e ≤ e' → e' < k → ¬ μ 126 e' = μ 126 k) ∧ f_X8_unlikeTicks_17 (fu + m) n k 1 e μ = f_X8_unlikeTicks_17 fu n k 1 k μ) := by
  intro m
  induction m with
  | zero => intro e fu h; rw [show e = k by omega]; exact Or.inr ⟨fun e' a b => by omega, rfl⟩
  | succ m ih =>
    intro e fu h
    rw [show fu + (m + 1) = (fu + m) + 1 by omega]
    conv => arg 2; rhs; lhs; unfold f_X8_unlikeTicks_17
    conv => arg 1; rhs; lhs; unfold f_X8_unlikeTicks_17
    rw [if_neg (show ¬ k ≤ e by omega), if_neg (by decide : ¬ (1 : Int32) = 0)]
    by_cases q : μ 126 e = μ 126 k
    · rw [if_pos q]
      exact Or.inl ⟨⟨e, Nat.le_refl _, by omega, q⟩, u_in0 (n' := 0) m (e + 1) fu (by omega)⟩
    · rw [if_neg q]
      rcases ih (e + 1) fu (by omega) with ⟨⟨e', a, b, c⟩, d⟩ | ⟨a, d⟩
      · exact Or.inl ⟨⟨e', by omega, b, c⟩, d⟩
      · refine Or.inr ⟨fun e' b1 b2 => ?_, d⟩
        by_cases z : e' = e
        · rw [z]; exact q
        · exact a e' (by omega) b2
theorem u_out {μ : Mem} : ∀ (es : List (Int32 × Int32)) (x : Int32 × Int32) (k n fu : Nat) (S : List Int32), ENT μ k (x :: es) → (∀ y, (∃ e, e < k ∧ μ 126 e = y) ↔ y ∈ S) → 33 * (es.length + 1) ≤ fu → f_X8_unlikeTicks_17 fu (nI n) k 1 0 μ = nI (n + dL S (x :: es)) := by
  intro es
  induction es with
  | nil =>
    intro x k n fu S hE hS hf
    have hl := hE.2.1
    rw [List.length_cons] at hl
    have e11 : (μ 120 11).toNatClampNeg = k + 1 := by rw [hE.1, nI_clamp (by rw [List.length_cons]; omega)]; rfl
    obtain ⟨t1, -⟩ := hE.hd
    obtain ⟨f, rfl⟩ : ∃ f, fu = (f + 1) + k := ⟨fu - 1 - k, by simp only [List.length_nil] at hf hl; omega⟩
    rcases u_in1 (n := nI n) (μ := μ) k 0 (f + 1) (Nat.zero_add k) with ⟨⟨e', -, b, c⟩, d⟩ | ⟨a, d⟩
    · rw [d]
      unfold f_X8_unlikeTicks_17
      have hm : x.1 ∈ S := (hS _).1 ⟨e', b, c.trans t1⟩
      rw [if_pos (Nat.le_refl k), if_pos rfl, e11, if_pos (Nat.le_refl _), Int32.add_zero, show dL S [x] = 0 from if_pos hm]
      rfl
    · rw [d]
      unfold f_X8_unlikeTicks_17
      have hm : ¬ x.1 ∈ S := fun q => by
        obtain ⟨e, b, c⟩ := (hS _).2 q
        exact a e (Nat.zero_le _) b (c.trans t1.symm)
      rw [if_pos (Nat.le_refl k), if_neg (by decide : ¬ (1 : Int32) = 0), e11, if_pos (Nat.le_refl _), nI_1, show dL S [x] = 1 from if_neg hm]
  | cons y es ih =>
    intro x k n fu S hE hS hf
    have hl := hE.2.1
    rw [List.length_cons] at hl
    rw [List.length_cons] at hf hl
    have e11 : (μ 120 11).toNatClampNeg = k + (es.length + 1 + 1) := by rw [hE.1, List.length_cons, List.length_cons, nI_clamp (by omega)]
    obtain ⟨t1, -⟩ := hE.hd
    have hE2 : ENT μ (k + 1) (y :: es) := hE.tl rfl rfl rfl
    obtain ⟨f, rfl⟩ : ∃ f, fu = (f + 1) + k := ⟨fu - 1 - k, by omega⟩
    have hf2 : 33 * (es.length + 1) ≤ f := by omega
    have hn : ¬ (μ 120 11).toNatClampNeg ≤ k + 1 := by omega
    rcases u_in1 (n := nI n) (μ := μ) k 0 (f + 1) (Nat.zero_add k) with ⟨⟨e', -, b, c⟩, d⟩ | ⟨a, d⟩
    · rw [d]
      unfold f_X8_unlikeTicks_17
      have hm : x.1 ∈ S := (hS _).1 ⟨e', b, c.trans t1⟩
      rw [if_pos (Nat.le_refl k), if_pos rfl, if_neg hn, Int32.add_zero, show dL S (x :: y :: es) = dL S (y :: es) from if_pos hm]
      refine ih y (k + 1) n f S hE2 (fun z => ⟨fun ⟨e, a1, a2⟩ => ?_, fun q => ?_⟩) hf2
      · by_cases w : e = k
        · rw [← a2, w, t1]; exact hm
        · exact (hS z).1 ⟨e, by omega, a2⟩
      · obtain ⟨e, a1, a2⟩ := (hS z).2 q
        exact ⟨e, by omega, a2⟩
    · rw [d]
      unfold f_X8_unlikeTicks_17
      have hm : ¬ x.1 ∈ S := fun q => by
        obtain ⟨e, b, c⟩ := (hS _).2 q
        exact a e (Nat.zero_le _) b (c.trans t1.symm)
      rw [if_pos (Nat.le_refl k), if_neg (by decide : ¬ (1 : Int32) = 0), if_neg hn, nI_1, show dL S (x :: y :: es) = dL (x.1 :: S) (y :: es) + 1 from if_neg hm]
      rw [show n + (dL (x.1 :: S) (y :: es) + 1) = n + 1 + dL (x.1 :: S) (y :: es) by omega]
      refine ih y (k + 1) (n + 1) f (x.1 :: S) hE2 (fun z => ⟨fun ⟨e, a1, a2⟩ => ?_, fun q => ?_⟩) hf2
      · by_cases w : e = k
        · rw [← a2, w, t1]; exact List.mem_cons_self ..
        · exact List.mem_cons_of_mem _ ((hS z).1 ⟨e, by omega, a2⟩)
      · rcases List.mem_cons.mp q with w | w
        · exact ⟨k, by omega, by rw [t1, w]⟩
        · obtain ⟨e, a1, a2⟩ := (hS z).2 w
          exact ⟨e, by omega, a2⟩
theorem unlike_eq {μ : Mem} {es : List (Int32 × Int32)} (hE : ENT μ 0 es) (hl : es.length ≤ 20) : f_X8_unlikeTicks μ = nI (dL [] es) := by
  unfold f_X8_unlikeTicks
  cases es with
  | nil =>
    rw [hE.1]
    rfl
  | cons x es =>
    have e11 : (μ 120 11).toNatClampNeg = es.length + 1 := by rw [hE.1, List.length_cons, nI_clamp (by rw [List.length_cons] at hl; omega)]; omega
    rw [List.length_cons] at hl
    rw [if_neg (by omega)]
    have := u_out (μ := μ) es x 0 0 704 [] hE (fun y => ⟨fun ⟨e, a, _⟩ => by omega, fun q => nomatch q⟩) (by omega)
    rw [Nat.zero_add] at this
    exact this
