def f_X8_in (v : Int32) (a : Int32) (b : Int32) (ω : Mem) : Int32 := (if v < a then 0 else (if b < v then 0 else 1))
theorem z_X8_in {v : Int32} {a : Int32} {b : Int32} {ω : Mem} : bb (f_X8_in v a b ω) = f_X8_in v a b ω := by
  unfold f_X8_in
  repeat' split
  all_goals first | with_reducible exact bb_bb _ | decide
def f_X8_isBurner (x : Int32) (ω : Mem) : Int32 := (f_X8_in x 0 3 ω)
theorem z_X8_isBurner {x : Int32} {ω : Mem} : bb (f_X8_isBurner x ω) = f_X8_isBurner x ω := by
  unfold f_X8_isBurner
  repeat' split
  all_goals first | with_reducible exact z_X8_in | with_reducible exact bb_bb _ | decide
def f_X8_get (k : Nat) (w : Nat) (ω : Mem) : Int32 := (ω 121 (68 + 10 * k + w))
def f_X8_lay (k : Nat) (w : Nat) (v : Int32) (ω : Mem) : Mem := (st ω 121 (68 + 10 * k + w) v)
def f_X8_choose (k : Int32) (a : Int32) (b : Int32) (c : Int32) (ω : Mem) : Int32 := (if k = 0 then a else (if k = 1 then b else c))
theorem choose_ne1 {k : Int32} {ω : Mem} : ¬ f_X8_choose k 10 14 20 ω = 0 := by
  unfold f_X8_choose
  repeat' split
  all_goals decide
theorem choose_ne2 {k : Int32} {ω : Mem} : ¬ f_X8_choose k 8 6 10 ω = 0 := by
  unfold f_X8_choose
  repeat' split
  all_goals decide
def f_X8_flow (k : Int32) (t : Int32) (ω : Mem) : Int32 := (if t = 1 then (f_X8_choose k 2 4 6 ω) else (f_X8_choose k 4 9 14 ω))
def f_X8_heat (k : Int32) (t : Int32) (ω : Mem) : Int32 := (if t = 1 then (f_X8_choose k 500 600 550 ω) else (f_X8_choose k 700 850 900 ω))
def f_X8_strengthOf (k : Int32) (t : Int32) (ω : Mem) : Int32 := (if t = 0 then 0 else (if t = 1 then (f_X8_choose k 2 3 1 ω) else (f_X8_choose k 4 6 5 ω)))
def f_X8_cooled (k : Int32) (t : Int32) (g : Int32) (ω : Mem) : Int32 := (if g ≤ ((t - (t / (f_X8_choose k 10 14 20 ω))) - 1) then ((t - (t / (f_X8_choose k 10 14 20 ω))) - 1) else g)
def f_X8_warmed (k : Int32) (t : Int32) (g : Int32) (ω : Mem) : Int32 := (if ((t + ((g - t) / (f_X8_choose k 8 6 10 ω))) + 1) ≤ g then ((t + ((g - t) / (f_X8_choose k 8 6 10 ω))) + 1) else g)
def f_X8_byFlame (k : Int32) (t : Int32) (g : Int32) (ω : Mem) : Int32 := (if g ≤ t then (if t ≤ g then t else (f_X8_cooled k t g ω)) else (f_X8_warmed k t g ω))
def f_X8_strength (k : Nat) (ω : Mem) : Int32 := (f_X8_strengthOf (f_X8_get k 0 ω) (f_X8_get k 1 ω) ω)
def f_X8_isOpen (k : Nat) (ω : Mem) : Int32 := (if (f_X8_get k 6 ω) = 0 then (if (f_X8_get k 1 ω) ≤ 0 then 0 else (if (f_X8_get k 2 ω) = 1 then 1 else (if (f_X8_get k 5 ω) < (ω 121 0) then 0 else 1))) else 0)
theorem z_X8_isOpen {k : Nat} {ω : Mem} : bb (f_X8_isOpen k ω) = f_X8_isOpen k ω := by
  unfold f_X8_isOpen
  repeat' split
  all_goals first | with_reducible exact bb_bb _ | decide
def f_X8_records_50 : Nat → Nat → Mem → Mem
  | 0, _, ω => ω
  | fu + 1, j, ω => (if 108 ≤ j then (st ω 120 4 ((ω 120 4) + 1)) else (f_X8_records_50 fu (j + 1) (st ω 123 (108 * ((ω 120 4).toNatClampNeg) + j) (ω 121 j))))
def f_X8_records_10 : Nat → Nat → Mem → Mem
  | 0, _, ω => ω
  | fu + 1, j, ω => (if 324 ≤ j then (f_X8_records_50 109 0 (st ω 120 4 ((ω 120 4) - 1))) else (f_X8_records_10 fu (j + 1) (st ω 123 j (ω 123 (j + 108)))))
def f_X8_records  (ω : Mem) : Mem := (if (ω 120 4) = 4 then (f_X8_records_10 325 0 ω) else (f_X8_records_50 109 0 ω))
def f_X8_putAside_2 : Nat → Nat → Mem → Mem
  | 0, _, ω => ω
  | fu + 1, j, ω => (if 108 ≤ j then ω else (f_X8_putAside_2 fu (j + 1) (st ω 122 j (ω 121 j))))
def f_X8_putAside  (ω : Mem) : Mem := (f_X8_putAside_2 109 0 ω)
def f_X8_takeBack_2 : Nat → Nat → Mem → Mem
  | 0, _, ω => ω
  | fu + 1, j, ω => (if 108 ≤ j then ω else (f_X8_takeBack_2 fu (j + 1) (st ω 121 j (ω 122 j))))
def f_X8_takeBack  (ω : Mem) : Mem := (f_X8_takeBack_2 109 0 ω)
def f_X8_draftAt_4 : Nat → Int32 → Int32 → Nat → Mem → Int32
  | 0, _, _, _, _ => 0
  | fu + 1, t, d, j, ω => (if (ω 121 43).toNatClampNeg ≤ j then d else (if t < (ω 121 (44 + 2 * j)) then (f_X8_draftAt_4 fu t d (j + 1) ω) else (f_X8_draftAt_4 fu t (ω 121 (44 + 2 * j + 1)) (j + 1) ω)))
def f_X8_draftAt (t : Int32) (ω : Mem) : Int32 := (f_X8_draftAt_4 13 t 0 0 ω)
def f_X8_tells_100 (ev : Nat) (b : Int32) (ω : Mem) : Mem := (st (st ω 121 12 ((ω 121 12) + 1)) 121 (8 + ev) (((st ω 121 12 ((ω 121 12) + 1)) 121 (8 + ev)) + 1))
def f_X8_tells_57 (ev : Nat) (b : Int32) (ω : Mem) : Mem := (f_X8_tells_100 ev b (st (st (st ω 121 (13 + 3 * ((ω 121 12).toNatClampNeg)) (nI (ev))) 121 (13 + 3 * ((ω 121 12).toNatClampNeg) + 1) b) 121 (13 + 3 * ((ω 121 12).toNatClampNeg) + 2) ((st (st ω 121 (13 + 3 * ((ω 121 12).toNatClampNeg)) (nI (ev))) 121 (13 + 3 * ((ω 121 12).toNatClampNeg) + 1) b) 121 4)))
def f_X8_tells_14 : Nat → Nat → Int32 → Nat → Mem → Mem
  | 0, _, _, _, ω => ω
  | fu + 1, ev, b, j, ω => (if 27 ≤ j then (f_X8_tells_57 ev b (st ω 121 12 ((ω 121 12) - 1))) else (f_X8_tells_14 fu ev b (j + 1) (st ω 121 (13 + j) (ω 121 (13 + j + 3)))))
def f_X8_tells (ev : Nat) (b : Int32) (ω : Mem) : Mem := (if (ω 121 12) = 10 then (f_X8_tells_14 28 ev b 0 ω) else (f_X8_tells_57 ev b ω))
def f_X8_sparks_73 (k : Nat) (d : Int32) (ω : Mem) : Mem := (f_X8_tells 3 (nI (k)) ω)
def f_X8_sparks_40 (k : Nat) (d : Int32) (ω : Mem) : Mem := (f_X8_tells 0 (nI (k)) ω)
def f_X8_sparks_16 (k : Nat) (d : Int32) (ω : Mem) : Mem := (if (f_X8_strength k ω) < d then (if (f_X8_get k 7 ω) < (ω 121 1) then ω else (f_X8_sparks_73 k d (f_X8_lay k 6 1 ω))) else (f_X8_sparks_40 k d (f_X8_lay k 7 0 (f_X8_lay k 4 1 ω))))
def f_X8_sparks (k : Nat) (d : Int32) (ω : Mem) : Mem := (f_X8_sparks_16 k d (f_X8_lay k 7 ((f_X8_get k 7 ω) + 1) ω))
def f_X8_burns_333 (k : Nat) (d : Int32) (g : Int32) (v4 : Int32) (v5 : Int32) (v6 : Int32) (v7 : Int32) (v8 : Int32) (w0 : Int32) (ω : Mem) : Mem := (st ω 121 7 w0)
def f_X8_burns_293 (k : Nat) (d : Int32) (g : Int32) (v4 : Int32) (v5 : Int32) (v6 : Int32) (v7 : Int32) (v8 : Int32) (ω : Mem) : Mem := (if (f_X8_get k 8 ω) ≤ (ω 121 7) then (f_X8_burns_333 k d g v4 v5 v6 v7 v8 (ω 121 7) ω) else (f_X8_burns_333 k d g v4 v5 v6 v7 v8 (f_X8_get k 8 ω) ω))
def f_X8_burns_290 (k : Nat) (d : Int32) (g : Int32) (v4 : Int32) (v5 : Int32) (v6 : Int32) (v7 : Int32) (v8 : Int32) (w0 : Int32) (ω : Mem) : Mem := (f_X8_burns_293 k d g v4 v5 v6 v7 v8 (f_X8_lay k 8 w0 ω))
def f_X8_burns_268 (k : Nat) (d : Int32) (g : Int32) (v4 : Int32) (v5 : Int32) (v6 : Int32) (v7 : Int32) (v8 : Int32) (ω : Mem) : Mem := (if v7 = 0 then (f_X8_burns_290 k d g v4 v5 v6 v7 v8 0 ω) else (f_X8_burns_290 k d g v4 v5 v6 v7 v8 ((f_X8_get k 8 ω) + 1) ω))
def f_X8_burns_251 (k : Nat) (d : Int32) (g : Int32) (v4 : Int32) (v5 : Int32) (v6 : Int32) (v7 : Int32) (v8 : Int32) (ω : Mem) : Mem := (f_X8_burns_268 k d g v4 v5 v6 v7 v8 (f_X8_lay k 9 ((f_X8_get k 9 ω) + v8) ω))
def f_X8_burns_238 (k : Nat) (d : Int32) (g : Int32) (v4 : Int32) (v5 : Int32) (v6 : Int32) (v7 : Int32) (w0 : Int32) (ω : Mem) : Mem := (f_X8_burns_251 k d g v4 v5 v6 v7 w0 (st ω 121 5 ((ω 121 5) + w0)))
def f_X8_burns_216 (k : Nat) (d : Int32) (g : Int32) (v4 : Int32) (v5 : Int32) (v6 : Int32) (w0 : Int32) (ω : Mem) : Mem := (if w0 = 0 then (f_X8_burns_238 k d g v4 v5 v6 w0 0 ω) else (f_X8_burns_238 k d g v4 v5 v6 w0 (f_X8_flow v5 (f_X8_get k 1 ω) ω) ω))
def f_X8_burns_194 (k : Nat) (d : Int32) (g : Int32) (v4 : Int32) (v5 : Int32) (v6 : Int32) (ω : Mem) : Mem := (if (f_X8_isOpen k ω) = 0 then (f_X8_burns_216 k d g v4 v5 v6 0 ω) else (if (f_X8_get k 4 ω) = 0 then (f_X8_burns_216 k d g v4 v5 v6 1 ω) else (f_X8_burns_216 k d g v4 v5 v6 0 ω)))
def f_X8_burns_168 (k : Nat) (d : Int32) (g : Int32) (v4 : Int32) (v5 : Int32) (v6 : Int32) (ω : Mem) : Mem := (if v4 = 0 then (f_X8_burns_194 k d g v4 v5 v6 ω) else (if (f_X8_isOpen k ω) = 0 then (f_X8_burns_194 k d g v4 v5 v6 (f_X8_tells 2 (nI (k)) (f_X8_lay k 4 0 ω))) else (f_X8_burns_194 k d g v4 v5 v6 ω)))
def f_X8_burns_165 (k : Nat) (d : Int32) (g : Int32) (v4 : Int32) (v5 : Int32) (v6 : Int32) (w0 : Int32) (ω : Mem) : Mem := (f_X8_burns_168 k d g v4 v5 v6 (f_X8_lay k 5 w0 ω))
def f_X8_burns_100 (k : Nat) (d : Int32) (g : Int32) (ω : Mem) : Mem := (if (f_X8_get k 4 ω) = 1 then (f_X8_burns_165 k d g (f_X8_isOpen k ω) (f_X8_get k 0 ω) (f_X8_get k 5 ω) (f_X8_byFlame (f_X8_get k 0 ω) (f_X8_get k 5 ω) (f_X8_heat (f_X8_get k 0 ω) (f_X8_get k 1 ω) ω) ω) ω) else (f_X8_burns_165 k d g (f_X8_isOpen k ω) (f_X8_get k 0 ω) (f_X8_get k 5 ω) (f_X8_cooled (f_X8_get k 0 ω) (f_X8_get k 5 ω) 0 ω) ω))
def f_X8_burns_57 (k : Nat) (d : Int32) (g : Int32) (ω : Mem) : Mem := (if (f_X8_get k 4 ω) = 0 then (if (f_X8_isOpen k ω) = 0 then (f_X8_burns_100 k d g ω) else (if (f_X8_get k 3 ω) = 1 then (if (ω 121 3) ≤ g then (f_X8_burns_100 k d g ω) else (f_X8_burns_100 k d g (f_X8_sparks k d ω))) else (f_X8_burns_100 k d g ω))) else (f_X8_burns_100 k d g ω))
def f_X8_burns_25 (k : Nat) (d : Int32) (g : Int32) (ω : Mem) : Mem := (if (f_X8_get k 4 ω) = 1 then (if d ≤ (f_X8_strength k ω) then (f_X8_burns_57 k d g ω) else (f_X8_burns_57 k d g (f_X8_tells 1 (nI (k)) (f_X8_lay k 4 0 ω)))) else (f_X8_burns_57 k d g ω))
def f_X8_burns (k : Nat) (d : Int32) (g : Int32) (ω : Mem) : Mem := (if (f_X8_get k 4 ω) = 1 then (if (f_X8_isOpen k ω) = 0 then (f_X8_burns_25 k d g (f_X8_lay k 4 0 ω)) else (f_X8_burns_25 k d g ω)) else (f_X8_burns_25 k d g ω))
def f_X8_ticks_119 (v1 : Int32) (v2 : Int32) (ω : Mem) : Mem := (st ω 121 4 ((ω 121 4) + 1))
def f_X8_ticks_118 (v1 : Int32) (v2 : Int32) (w0 : Int32) (ω : Mem) : Mem := (f_X8_ticks_119 v1 v2 (st ω 121 5 w0))
def f_X8_ticks_77 (v1 : Int32) (v2 : Int32) (ω : Mem) : Mem := (if ((ω 121 2) + v1) ≤ (ω 121 5) then (f_X8_ticks_118 v1 v2 (((ω 121 5) - (ω 121 2)) - v1) ω) else (f_X8_ticks_118 v1 v2 0 ω))
def f_X8_ticks_76 (v1 : Int32) (v2 : Int32) (w0 : Int32) (ω : Mem) : Mem := (f_X8_ticks_77 v1 v2 (st ω 121 6 w0))
def f_X8_ticks_38 (v1 : Int32) (v2 : Int32) (ω : Mem) : Mem := (if (ω 121 5) ≤ (ω 121 6) then (f_X8_ticks_76 v1 v2 (ω 121 6) ω) else (f_X8_ticks_76 v1 v2 (ω 121 5) ω))
def f_X8_ticks  (ω : Mem) : Mem := (f_X8_ticks_38 (f_X8_draftAt (ω 121 4) ω) (ω 121 5) (f_X8_burns 3 (f_X8_draftAt (ω 121 4) ω) (ω 121 5) (f_X8_burns 2 (f_X8_draftAt (ω 121 4) ω) (ω 121 5) (f_X8_burns 1 (f_X8_draftAt (ω 121 4) ω) (ω 121 5) (f_X8_burns 0 (f_X8_draftAt (ω 121 4) ω) (ω 121 5) ω)))))
def f_X8_totals  (ω : Mem) : Int32 := ((((ω 121 8) + (ω 121 9)) + (ω 121 10)) + (ω 121 11))
def f_X8_entryAt_2 : Nat → Int32 → Nat → Mem → Int32
  | 0, _, _, _ => 0
  | fu + 1, t, j, ω => (if (ω 121 43).toNatClampNeg ≤ j then (-5) else (if (ω 121 (44 + 2 * j)) = t then (nI (j)) else (f_X8_entryAt_2 fu t (j + 1) ω)))
def f_X8_entryAt (t : Int32) (ω : Mem) : Int32 := (f_X8_entryAt_2 13 t 0 ω)
theorem entryAt_lp {t : Int32} {ω : Mem} (hz : (ω 121 43).toNatClampNeg ≤ 12) : ∀ (fu j : Nat), j ≤ (ω 121 43).toNatClampNeg → 12 < j + fu → (∀ i, i < j → ω 121 (44 + 2 * i) ≠ t) → (f_X8_entryAt_2 fu t j ω = -5 ∧ ∀ i, i < (ω 121 43).toNatClampNeg → ω 121 (44 + 2 * i) ≠ t) ∨ ∃ i, i < (ω 121 43).toNatClampNeg ∧ f_X8_entryAt_2 fu t j ω = nI i ∧ ω 121 (44 + 2 * i) = t ∧ ∀ i', i' < i → ω 121 (44 + 2 * i') ≠ t := by
  intro fu
  induction fu with
  | zero => intro j hj hf; omega
  | succ fu ih =>
    intro j hj hf hn
    unfold f_X8_entryAt_2
    by_cases h1 : (ω 121 43).toNatClampNeg ≤ j
    · rw [if_pos h1]
      exact Or.inl ⟨rfl, fun i hi => hn i (by omega)⟩
    · rw [if_neg h1]
      by_cases h2 : ω 121 (44 + 2 * j) = t
      · rw [if_pos h2]
        exact Or.inr ⟨j, by omega, rfl, h2, hn⟩
      · rw [if_neg h2]
        refine ih (j + 1) (by omega) (by omega) (fun i hi => ?_)
        rcases (show i < j ∨ i = j by omega) with q | q
        · exact hn i q
        · rw [q]
          exact h2
theorem entryAt_cases (t : Int32) (ω : Mem) (h : rg (ω 121 43) 12) : (f_X8_entryAt t ω = -5 ∧ ∀ i, i < (ω 121 43).toNatClampNeg → ω 121 (44 + 2 * i) ≠ t) ∨ ∃ i, i < (ω 121 43).toNatClampNeg ∧ f_X8_entryAt t ω = nI i ∧ ω 121 (44 + 2 * i) = t ∧ ∀ i', i' < i → ω 121 (44 + 2 * i') ≠ t := entryAt_lp h.2 13 0 (Nat.zero_le _) (by omega) (fun i hi => absurd hi (Nat.not_lt_zero i))
theorem entry_rg {t : Int32} {ω : Mem} (h : rg (ω 121 43) 12) (hn : ¬ f_X8_entryAt t ω = -5) : rg (f_X8_entryAt t ω) 11 := by
  rcases entryAt_cases t ω h with q | ⟨i, h1, h2, -, -⟩
  · exact absurd q.1 hn
  · rw [h2]
    exact rg_of (by have := h.2; omega) (by decide)
def f_X8_plans_108 (t : Int32) (d : Int32) (q : Nat) (ω : Mem) : Mem := (st (st ω 121 (44 + 2 * q) t) 121 (44 + 2 * q + 1) d)
def f_X8_plans_20 : Nat → Int32 → Int32 → Nat → Mem → Mem
  | 0, _, _, _, ω => ω
  | fu + 1, t, d, j, ω => (if j ≤ 0 then (f_X8_plans_108 t d j (st ω 121 43 ((ω 121 43) + 1))) else (if (ω 121 (44 + 2 * j - 2)) ≤ t then (f_X8_plans_108 t d j (st ω 121 43 ((ω 121 43) + 1))) else (f_X8_plans_20 fu t d (j - 1) (st (st ω 121 (44 + 2 * j) (ω 121 (44 + 2 * j - 2))) 121 (44 + 2 * j + 1) ((st ω 121 (44 + 2 * j) (ω 121 (44 + 2 * j - 2))) 121 (44 + 2 * j - 1))))))
def f_X8_plans (t : Int32) (d : Int32) (ω : Mem) : Mem := (if (f_X8_entryAt t ω) = (-5) then (f_X8_plans_20 13 t d ((ω 121 43).toNatClampNeg) ω) else (f_X8_plans_108 t d ((f_X8_entryAt t ω).toNatClampNeg) ω))
theorem isBurner_bad {x : Int32} {ω : Mem} (h : x < 0 ∨ 4 ≤ x) : f_X8_isBurner x ω = 0 := by
  unfold f_X8_isBurner f_X8_in
  by_cases h1 : x < 0
  · rw [if_pos h1]
  · rw [if_neg h1]
    have h2 := h.resolve_left h1
    have h3 : (3 : Int32) < x := by
      rw [Int32.lt_iff_toInt_lt]
      rw [Int32.le_iff_toInt_le] at h2
      have e3 : (3 : Int32).toInt = 3 := rfl
      have e4 : (4 : Int32).toInt = 4 := rfl
      omega
    rw [if_pos h3]
theorem inW_bad {x a b : Int32} {ω : Mem} (h : x < a ∨ b < x) : f_X8_in x a b ω = 0 := by
  unfold f_X8_in
  by_cases h1 : x < a
  · rw [if_pos h1]
  · rw [if_neg h1, if_pos (h.resolve_left h1)]
theorem in_rg {w b : Int32} {n : Nat} {ω : Mem} (hb : b.toInt = n) (h : ¬ f_X8_in w 0 b ω = 0) : rg w n := by
  unfold f_X8_in at h
  by_cases h1 : w < 0
  · rw [if_pos h1] at h
    exact absurd rfl h
  · rw [if_neg h1] at h
    by_cases h2 : b < w
    · rw [if_pos h2] at h
      exact absurd rfl h
    · obtain ⟨j, hj, rfl⟩ := nI_of h1
      rw [Int32.lt_iff_toInt_lt, nI_toInt hj] at h2
      exact ⟨by rw [nI_clamp hj], by rw [nI_clamp hj]; omega⟩
theorem rg_pred {x : Int32} {n : Nat} (h : rg x (n + 1)) (hn : n < 2 ^ 30) (hx : ¬ x = 0) : rg (x - 1) n := by
  have h1 := h.1
  have h2 := h.2
  have h0 : x.toNatClampNeg ≠ 0 := fun e => hx (by rw [h1, e]; rfl)
  have e : x - 1 = nI (x.toNatClampNeg - 1) := by
    conv => lhs; rw [h1]
    exact pk_sub (a := x.toNatClampNeg) (b := 1) (by omega)
  rw [e]
  exact rg_of (by omega) (by omega)
theorem rg_ltn {x y : Int32} {n : Nat} (h0 : ¬ x < 0) (h1 : x < y) (hy : rg y n) (hn : n < 2 ^ 30) : x = nI x.toNatClampNeg ∧ x.toNatClampNeg < y.toNatClampNeg := by
  obtain ⟨j, hj, rfl⟩ := nI_of h0
  rw [hy.1] at h1
  have := (nI_ltI hj (by have := hy.2; omega)).mp h1
  rw [nI_clamp hj]
  exact ⟨rfl, this⟩
theorem rg_lt {x y : Int32} {n : Nat} (h0 : ¬ x < 0) (h1 : x < y) (hy : rg y n) (hn : n < 2 ^ 30) : rg x n := by
  have h := rg_ltn h0 h1 hy hn
  exact ⟨h.1, by have := hy.2; omega⟩
theorem in_rg4 {w : Int32} {ω : Mem} (h : ¬ f_X8_in w 4 7 ω = 0) : rg w 7 ∧ 4 ≤ w.toNatClampNeg := by
  unfold f_X8_in at h
  by_cases h1 : w < 4
  · rw [if_pos h1] at h
    exact absurd rfl h
  · rw [if_neg h1] at h
    by_cases h2 : (7 : Int32) < w
    · rw [if_pos h2] at h
      exact absurd rfl h
    · rw [Int32.lt_iff_toInt_lt] at h1 h2
      have e4 : (4 : Int32).toInt = 4 := rfl
      have e7 : (7 : Int32).toInt = 7 := rfl
      obtain ⟨j, hj, rfl⟩ := nI_of (x := w) (fun z => by rw [Int32.lt_iff_toInt_lt] at z; have : (0 : Int32).toInt = 0 := rfl; omega)
      rw [nI_toInt hj] at h1 h2
      exact ⟨⟨by rw [nI_clamp hj], by rw [nI_clamp hj]; omega⟩, by rw [nI_clamp hj]; omega⟩
theorem choose_v (k a b c : Int32) (ω : Mem) : f_X8_choose k a b c ω = a ∨ f_X8_choose k a b c ω = b ∨ f_X8_choose k a b c ω = c := by
  unfold f_X8_choose
  by_cases h : k = 0
  · rw [if_pos h]; exact Or.inl rfl
  · rw [if_neg h]
    by_cases h2 : k = 1
    · rw [if_pos h2]; exact Or.inr (Or.inl rfl)
    · rw [if_neg h2]; exact Or.inr (Or.inr rfl)
theorem coolN (c j : Nat) (hc : 1 < c) (hc2 : c < 100) (hj : j < 2 ^ 20) : (if 0 ≤ ((nI j - (nI j / nI c)) - 1) then ((nI j - (nI j / nI c)) - 1) else 0) = nI (j - j / c - 1) := by
  rw [pk_div (by omega) (by omega) (by omega)]
  have hd : j / c ≤ j := Nat.div_le_self _ _
  generalize j / c = d at hd ⊢
  rw [pk_sub hd]
  by_cases h : j - d = 0
  · rw [h]
    decide
  · have e : nI (j - d) - 1 = nI (j - d - 1) := pk_sub (a := j - d) (b := 1) (by omega)
    rw [e, if_pos (nI_pos' (by omega))]
theorem cooled_nat (k : Int32) (j : Nat) (hj : j < 2 ^ 20) (ω : Mem) : ∃ c : Nat, 1 < c ∧ c < 100 ∧ f_X8_choose k 10 14 20 ω = nI c ∧ f_X8_cooled k (nI j) 0 ω = nI (j - j / c - 1) := by
  unfold f_X8_cooled
  rcases choose_v k 10 14 20 ω with h | h | h <;> rw [h]
  · exact ⟨10, by decide, by decide, rfl, coolN 10 j (by decide) (by decide) hj⟩
  · exact ⟨14, by decide, by decide, rfl, coolN 14 j (by decide) (by decide) hj⟩
  · exact ⟨20, by decide, by decide, rfl, coolN 20 j (by decide) (by decide) hj⟩
theorem cooled_lt {k v : Int32} {ω : Mem} (h : rg v 900) (h0 : 0 < v.toNatClampNeg) : rg (f_X8_cooled k v 0 ω) 900 ∧ (f_X8_cooled k v 0 ω).toNatClampNeg < v.toNatClampNeg := by
  have h2 := h.2
  obtain ⟨c, -, -, -, e⟩ := cooled_nat k v.toNatClampNeg (by omega) ω
  rw [← h.1] at e
  have hd : v.toNatClampNeg / c ≤ v.toNatClampNeg := Nat.div_le_self _ _
  rw [e]
  generalize v.toNatClampNeg / c = d at hd ⊢
  rw [nI_clamp (by omega)]
  exact ⟨rg_of (by omega) (by omega), by omega⟩
theorem pos_of_ge {v t : Int32} (h : ¬ v < t) (ht : 1 ≤ t.toInt) : 0 < v.toNatClampNeg := by
  rw [Int32.lt_iff_toInt_lt] at h
  unfold Int32.toNatClampNeg
  omega
def f_X8_isSetting (w : Int32) (v : Int32) (ω : Mem) : Int32 := (if w = 0 then (f_X8_in v 100 450 ω) else (if w = 1 then (f_X8_in v 1 20 ω) else (if w = 2 then (f_X8_in v 0 50 ω) else (f_X8_in v 50 1000 ω))))
theorem z_X8_isSetting {w : Int32} {v : Int32} {ω : Mem} : bb (f_X8_isSetting w v ω) = f_X8_isSetting w v ω := by
  unfold f_X8_isSetting
  repeat' split
  all_goals first | with_reducible exact z_X8_in | with_reducible exact bb_bb _ | decide
def f_X8_set_5 (w : Int32) (v : Int32) (ω : Mem) : Int32 × Mem := (if (f_X8_in w 0 3 ω) = 0 then ((-1), ω) else (if (f_X8_isSetting w v ω) = 0 then ((-2), ω) else (if (ω 121 w.toNatClampNeg) = v then ((-5), ω) else ((ω 121 w.toNatClampNeg), (st (f_X8_records ω) 121 w.toNatClampNeg v)))))
def f_X8_set (w : Int32) (v : Int32) (ω : Mem) : Int32 × Mem := (f_X8_set_5 w v (st ω 120 0 0))
def f_X8_setKind_5 (k : Nat) (v : Int32) (ω : Mem) : Int32 × Mem := (if (f_X8_isBurner (nI (k)) ω) = 0 then ((-1), ω) else (if (f_X8_in v 0 2 ω) = 0 then ((-2), ω) else (if (f_X8_get k 1 ω) = 0 then (if (f_X8_get k 0 ω) = v then ((-5), ω) else ((f_X8_get k 0 ω), (f_X8_lay k 0 v (f_X8_records ω)))) else ((-4), ω))))
def f_X8_setKind (k : Nat) (v : Int32) (ω : Mem) : Int32 × Mem := (f_X8_setKind_5 k v (st ω 120 0 0))
def f_X8_setKindB (x : Int32) (v : Int32) (ω : Mem) : Int32 × Mem := ((-1), (st ω 120 0 0))
def f_X8_turn_5 (k : Nat) (v : Int32) (ω : Mem) : Int32 × Mem := (if (f_X8_isBurner (nI (k)) ω) = 0 then ((-1), ω) else (if (f_X8_in v 0 2 ω) = 0 then ((-2), ω) else (if (f_X8_get k 1 ω) = v then ((-5), ω) else (if v = 0 then ((f_X8_get k 1 ω), (f_X8_lay k 4 0 (f_X8_lay k 1 v (f_X8_records ω)))) else ((f_X8_get k 1 ω), (f_X8_lay k 4 (f_X8_get k 4 (f_X8_lay k 1 v (f_X8_records ω))) (f_X8_lay k 1 v (f_X8_records ω))))))))
def f_X8_turn (k : Nat) (v : Int32) (ω : Mem) : Int32 × Mem := (f_X8_turn_5 k v (st ω 120 0 0))
def f_X8_turnB (x : Int32) (v : Int32) (ω : Mem) : Int32 × Mem := ((-1), (st ω 120 0 0))
def f_X8_press_5 (k : Nat) (v : Int32) (ω : Mem) : Int32 × Mem := (if (f_X8_isBurner (nI (k)) ω) = 0 then ((-1), ω) else (if v = 0 then (if (f_X8_get k 2 ω) = 0 then ((-5), ω) else (if (f_X8_isOpen k (f_X8_lay k 2 0 (f_X8_records ω))) = 0 then (0, (f_X8_lay k 2 0 (f_X8_records ω))) else (1, (f_X8_lay k 2 0 (f_X8_records ω))))) else (if (f_X8_get k 2 ω) = 1 then ((-5), ω) else (if (f_X8_isOpen k (f_X8_lay k 2 1 (f_X8_records ω))) = 0 then (0, (f_X8_lay k 2 1 (f_X8_records ω))) else (1, (f_X8_lay k 2 1 (f_X8_records ω)))))))
def f_X8_press (k : Nat) (v : Int32) (ω : Mem) : Int32 × Mem := (f_X8_press_5 k v (st ω 120 0 0))
def f_X8_pressB (x : Int32) (v : Int32) (ω : Mem) : Int32 × Mem := ((-1), (st ω 120 0 0))
def f_X8_sumOver (w : Nat) (ω : Mem) : Int32 := ((((0 + (f_X8_get 0 w ω)) + (f_X8_get 1 w ω)) + (f_X8_get 2 w ω)) + (f_X8_get 3 w ω))
def f_X8_igniter_5 (k : Nat) (v : Int32) (ω : Mem) : Int32 × Mem := (if (f_X8_isBurner (nI (k)) ω) = 0 then ((-1), ω) else (if v = 0 then (if (f_X8_get k 3 ω) = 0 then ((-5), ω) else ((f_X8_sumOver 3 (f_X8_lay k 3 0 (f_X8_records ω))), (f_X8_lay k 3 0 (f_X8_records ω)))) else (if (f_X8_get k 3 ω) = 1 then ((-5), ω) else ((f_X8_sumOver 3 (f_X8_lay k 3 1 (f_X8_records ω))), (f_X8_lay k 3 1 (f_X8_records ω))))))
def f_X8_igniter (k : Nat) (v : Int32) (ω : Mem) : Int32 × Mem := (f_X8_igniter_5 k v (st ω 120 0 0))
def f_X8_igniterB (x : Int32) (v : Int32) (ω : Mem) : Int32 × Mem := ((-1), (st ω 120 0 0))
def f_X8_light_5 (k : Nat) (ω : Mem) : Int32 × Mem := (if (f_X8_isBurner (nI (k)) ω) = 0 then ((-1), ω) else (if (f_X8_isOpen k ω) = 0 then ((-4), ω) else (if (f_X8_get k 4 ω) = 1 then ((-4), ω) else (if (ω 121 5) < (ω 121 3) then (if (f_X8_draftAt ((f_X8_records ω) 121 4) (f_X8_records ω)) ≤ (f_X8_strength k (f_X8_records ω)) then (1, (f_X8_tells 0 (nI (k)) (f_X8_lay k 7 0 (f_X8_lay k 4 1 (f_X8_records ω))))) else (0, (f_X8_records ω))) else ((-4), ω)))))
def f_X8_light (k : Nat) (ω : Mem) : Int32 × Mem := (f_X8_light_5 k (st ω 120 0 0))
def f_X8_lightB (x : Int32) (ω : Mem) : Int32 × Mem := ((-1), (st ω 120 0 0))
def f_X8_unlock_5 (k : Nat) (ω : Mem) : Int32 × Mem := (if (f_X8_isBurner (nI (k)) ω) = 0 then ((-1), ω) else (if (f_X8_get k 6 ω) = 0 then ((-4), ω) else (if (f_X8_get k 1 ω) = 0 then ((f_X8_sumOver 6 (f_X8_lay k 7 0 (f_X8_lay k 6 0 (f_X8_records ω)))), (f_X8_lay k 7 0 (f_X8_lay k 6 0 (f_X8_records ω)))) else ((-4), ω))))
def f_X8_unlock (k : Nat) (ω : Mem) : Int32 × Mem := (f_X8_unlock_5 k (st ω 120 0 0))
def f_X8_unlockB (x : Int32) (ω : Mem) : Int32 × Mem := ((-1), (st ω 120 0 0))
def f_X8_pass_46 : Nat → Nat → Int32 → Nat → Mem → Int32 × Mem
  | 0, _, _, _, ω => (0, ω)
  | fu + 1, t, v, j, ω => (if t ≤ j then (((f_X8_totals ω) - v), ω) else (f_X8_pass_46 fu t v (j + 1) (f_X8_ticks ω)))
def f_X8_pass_5 (t : Nat) (ω : Mem) : Int32 × Mem := (if (f_X8_in (nI (t)) 1 200 ω) = 0 then ((-2), ω) else (if ((ω 121 4) + (nI (t))) ≤ 99999 then (f_X8_pass_46 201 t (f_X8_totals (f_X8_records ω)) 0 (f_X8_records ω)) else ((-3), ω)))
def f_X8_pass (t : Nat) (ω : Mem) : Int32 × Mem := (f_X8_pass_5 t (st ω 120 0 0))
def f_X8_passB (x : Int32) (ω : Mem) : Int32 × Mem := ((-2), (st ω 120 0 0))
def f_X8_undo_27 : Nat → Nat → Mem → Int32 × Mem
  | 0, _, ω => (0, ω)
  | fu + 1, j, ω => (if 108 ≤ j then ((ω 120 4), ω) else (f_X8_undo_27 fu (j + 1) (st ω 121 j (ω 123 (108 * ((ω 120 4).toNatClampNeg) + j)))))
def f_X8_undo  (ω : Mem) : Int32 × Mem := (if ((st ω 120 0 0) 120 4) = 0 then ((-5), (st ω 120 0 0)) else (f_X8_undo_27 109 0 (st (st ω 120 0 0) 120 4 (((st ω 120 0 0) 120 4) - 1))))
def f_X8_keep_7 : Nat → Nat → Mem → Int32 × Mem
  | 0, _, ω => (0, ω)
  | fu + 1, j, ω => (if 108 ≤ j then (((st ω 120 6 1) 121 4), (st ω 120 6 1)) else (f_X8_keep_7 fu (j + 1) (st ω 124 j (ω 121 j))))
def f_X8_keep  (ω : Mem) : Int32 × Mem := (f_X8_keep_7 109 0 (st ω 120 0 0))
def f_X8_restore_21 : Nat → Nat → Mem → Int32 × Mem
  | 0, _, ω => (0, ω)
  | fu + 1, j, ω => (if 108 ≤ j then ((ω 121 4), ω) else (f_X8_restore_21 fu (j + 1) (st ω 121 j (ω 124 j))))
def f_X8_restore_5  (ω : Mem) : Int32 × Mem := (if (bb (ω 120 6)) = 0 then ((-5), ω) else (f_X8_restore_21 109 0 (f_X8_records ω)))
def f_X8_restore  (ω : Mem) : Int32 × Mem := (f_X8_restore_5 (st ω 120 0 0))
def f_X8_burner_5 (k : Nat) (w : Int32) (ω : Mem) : Int32 × Mem := (if (f_X8_isBurner (nI (k)) ω) = 0 then ((-1), ω) else (if w = 6 then (if (f_X8_isOpen k ω) = 0 then (0, ω) else (1, ω)) else (if w = 7 then ((f_X8_get k 6 ω), ω) else (if w = 8 then ((f_X8_get k 7 ω), ω) else (if w = 9 then ((f_X8_get k 8 ω), ω) else (if w = 10 then ((f_X8_get k 9 ω), ω) else (if w = 11 then ((f_X8_strength k ω), ω) else (if (f_X8_in w 0 5 ω) = 0 then ((-2), ω) else ((f_X8_get k w.toNatClampNeg ω), ω)))))))))
def f_X8_burner (k : Nat) (w : Int32) (ω : Mem) : Int32 × Mem := (f_X8_burner_5 k w (st ω 120 0 0))
def f_X8_burnerB (x : Int32) (w : Int32) (ω : Mem) : Int32 × Mem := ((-1), (st ω 120 0 0))
theorem heat_v (k t : Int32) (ω : Mem) : ∃ g : Nat, 500 ≤ g ∧ g ≤ 900 ∧ f_X8_heat k t ω = nI g := by
  unfold f_X8_heat
  by_cases ht : t = 1
  · rw [if_pos ht]
    rcases choose_v k 500 600 550 ω with h | h | h <;> rw [h]
    · exact ⟨500, by decide, by decide, rfl⟩
    · exact ⟨600, by decide, by decide, rfl⟩
    · exact ⟨550, by decide, by decide, rfl⟩
  · rw [if_neg ht]
    rcases choose_v k 700 850 900 ω with h | h | h <;> rw [h]
    · exact ⟨700, by decide, by decide, rfl⟩
    · exact ⟨850, by decide, by decide, rfl⟩
    · exact ⟨900, by decide, by decide, rfl⟩
theorem warmN (c j g : Nat) (hc : 1 < c) (hc2 : c < 100) (hj : j < g) (hg : g < 2 ^ 20) : (if ((nI j + ((nI g - nI j) / nI c)) + 1) ≤ nI g then ((nI j + ((nI g - nI j) / nI c)) + 1) else nI g) = nI (min g (j + (g - j) / c + 1)) := by
  rw [pk_sub (Nat.le_of_lt hj), pk_div (by omega) (by omega) (by omega), nI_add, nI_1]
  have hd : (g - j) / c ≤ g - j := Nat.div_le_self _ _
  generalize (g - j) / c = d at hd ⊢
  by_cases h : j + d + 1 ≤ g
  · rw [if_pos ((nI_leI (by omega) (by omega)).mpr h), Nat.min_eq_right h]
  · rw [if_neg (fun z => h ((nI_leI (by omega) (by omega)).mp z)), Nat.min_eq_left (by omega)]
theorem warmed_nat (k : Int32) (j g : Nat) (hj : j < g) (hg : g < 2 ^ 20) (ω : Mem) : ∃ c : Nat, 1 < c ∧ c < 100 ∧ f_X8_choose k 8 6 10 ω = nI c ∧ f_X8_warmed k (nI j) (nI g) ω = nI (min g (j + (g - j) / c + 1)) := by
  unfold f_X8_warmed
  rcases choose_v k 8 6 10 ω with h | h | h <;> rw [h]
  · exact ⟨8, by decide, by decide, rfl, warmN 8 j g (by decide) (by decide) hj hg⟩
  · exact ⟨6, by decide, by decide, rfl, warmN 6 j g (by decide) (by decide) hj hg⟩
  · exact ⟨10, by decide, by decide, rfl, warmN 10 j g (by decide) (by decide) hj hg⟩
theorem byFlame_up {k v t : Int32} {tap : Int32} {ω : Mem} (h : rg v 900) (h1 : ¬ t ≤ v) (ht : t.toInt ≤ 450) : rg (f_X8_byFlame k v (f_X8_heat k tap ω) ω) 900 ∧ v.toNatClampNeg < (f_X8_byFlame k v (f_X8_heat k tap ω) ω).toNatClampNeg ∧ v.toNatClampNeg < 450 := by
  have h2 := h.2
  have hv : v.toNatClampNeg < 450 := by
    rw [Int32.le_iff_toInt_le] at h1
    unfold Int32.toNatClampNeg
    have h9 : v.toInt = (v.toNatClampNeg : Int) := by
      conv => lhs; rw [h.1]
      exact nI_toInt (by omega)
    omega
  obtain ⟨g, g1, g2, e⟩ := heat_v k tap ω
  rw [e]
  obtain ⟨c, -, -, -, e2⟩ := warmed_nat k v.toNatClampNeg g (by omega) (by omega) ω
  rw [← h.1] at e2
  unfold f_X8_byFlame
  rw [if_neg (fun z => by rw [h.1] at z; exact absurd ((nI_leI (by omega) (by omega)).mp z) (by omega)), e2]
  generalize (g - v.toNatClampNeg) / c = d
  rw [nI_clamp (by omega)]
  exact ⟨rg_of (by omega) (by omega), by omega, hv⟩
def f_X8_isClear_17 : Nat → Int32 → Nat → Mem → Int32
  | 0, _, _, _ => 0
  | fu + 1, v, j, ω => (if 4 ≤ j then v else (if v = 0 then (f_X8_isClear_17 fu 0 (j + 1) ω) else (if (f_X8_isOpen j ω) = 0 then (f_X8_isClear_17 fu 1 (j + 1) ω) else (if (f_X8_get j 4 ω) = 0 then (f_X8_isClear_17 fu 0 (j + 1) ω) else (f_X8_isClear_17 fu 1 (j + 1) ω)))))
def f_X8_isClear  (ω : Mem) : Int32 := (if (ω 121 5) = 0 then (f_X8_isClear_17 5 1 0 ω) else (f_X8_isClear_17 5 0 0 ω))
def f_X8_openValves_4 : Nat → Int32 → Nat → Mem → Int32
  | 0, _, _, _ => 0
  | fu + 1, v, j, ω => (if 4 ≤ j then v else (if (f_X8_isOpen j ω) = 0 then (f_X8_openValves_4 fu (v + 0) (j + 1) ω) else (f_X8_openValves_4 fu (v + 1) (j + 1) ω)))
def f_X8_openValves  (ω : Mem) : Int32 := (f_X8_openValves_4 5 0 0 ω)
def f_X8_clearIn_11 : Nat → Nat → Mem → Int32 × Mem
  | 0, _, ω => (0, ω)
  | fu + 1, j, ω => (if 500 < j then (if j ≤ 500 then ((nI (j)), (f_X8_takeBack ω)) else ((-5), (f_X8_takeBack ω))) else (if (f_X8_isClear ω) = 0 then (f_X8_clearIn_11 fu (j + 1) (f_X8_ticks ω)) else (if j ≤ 500 then ((nI (j)), (f_X8_takeBack ω)) else ((-5), (f_X8_takeBack ω)))))
def f_X8_clearIn  (ω : Mem) : Int32 × Mem := (f_X8_clearIn_11 502 0 (f_X8_putAside (st ω 120 0 0)))
def f_X8_entry_5 (x : Int32) (w : Int32) (ω : Mem) : Int32 × Mem := (if x < 0 then ((-2), ω) else (if (f_X8_in w 0 1 ω) = 0 then ((-2), ω) else (if (ω 121 43) ≤ x then ((-5), ω) else ((ω 121 (44 + 2 * x.toNatClampNeg + w.toNatClampNeg)), ω))))
def f_X8_entry (x : Int32) (w : Int32) (ω : Mem) : Int32 × Mem := (f_X8_entry_5 x w (st ω 120 0 0))
def f_X8_event_5 (x : Int32) (w : Int32) (ω : Mem) : Int32 × Mem := (if x < 0 then ((-2), ω) else (if (f_X8_in w 0 2 ω) = 0 then ((-2), ω) else (if (ω 121 12) ≤ x then ((-5), ω) else ((ω 121 (13 + (3 * ((ω 121 12).toNatClampNeg - 1 - x.toNatClampNeg)) + w.toNatClampNeg)), ω))))
def f_X8_event (x : Int32) (w : Int32) (ω : Mem) : Int32 × Mem := (f_X8_event_5 x w (st ω 120 0 0))
def f_X8_count_5 (w : Int32) (ω : Mem) : Int32 × Mem := (if w = 0 then ((ω 121 4), ω) else (if w = 1 then ((ω 121 5), ω) else (if w = 2 then ((f_X8_draftAt (ω 121 4) ω), ω) else (if w = 3 then ((ω 121 43), ω) else (if w = 4 then (if (f_X8_in w 4 7 ω) = 0 then ((-2), ω) else ((ω 121 (8 + w.toNatClampNeg - 4)), ω)) else (if w = 5 then (if (f_X8_in w 4 7 ω) = 0 then ((-2), ω) else ((ω 121 (8 + w.toNatClampNeg - 4)), ω)) else (if w = 6 then (if (f_X8_in w 4 7 ω) = 0 then ((-2), ω) else ((ω 121 (8 + w.toNatClampNeg - 4)), ω)) else (if w = 7 then (if (f_X8_in w 4 7 ω) = 0 then ((-2), ω) else ((ω 121 (8 + w.toNatClampNeg - 4)), ω)) else (if w = 8 then ((f_X8_sumOver 4 ω), ω) else (if w = 9 then ((f_X8_openValves ω), ω) else (if w = 10 then ((f_X8_sumOver 6 ω), ω) else (if w = 11 then ((ω 121 6), ω) else (if w = 12 then ((ω 121 7), ω) else (if w = 13 then ((ω 120 4), ω) else (if w = 14 then ((ω 120 8), ω) else (if (f_X8_in w 4 7 ω) = 0 then ((-2), ω) else ((ω 121 (8 + w.toNatClampNeg - 4)), ω)))))))))))))))))
def f_X8_count (w : Int32) (ω : Mem) : Int32 × Mem := (f_X8_count_5 w (st ω 120 0 0))
def f_X8_setting_5 (w : Int32) (ω : Mem) : Int32 × Mem := (if (f_X8_in w 0 3 ω) = 0 then ((-1), ω) else ((ω 121 w.toNatClampNeg), ω))
def f_X8_setting (w : Int32) (ω : Mem) : Int32 × Mem := (f_X8_setting_5 w (st ω 120 0 0))
theorem rec50_121 : ∀ (fu j : Nat) (ω : Mem), (f_X8_records_50 fu j ω) 121 = ω 121 := by
  intro fu
  induction fu with
  | zero => intro j ω; rfl
  | succ fu ih =>
    intro j ω
    unfold f_X8_records_50
    split
    · rfl
    · rw [ih]
      rfl
theorem rec10_121 : ∀ (fu j : Nat) (ω : Mem), (f_X8_records_10 fu j ω) 121 = ω 121 := by
  intro fu
  induction fu with
  | zero => intro j ω; rfl
  | succ fu ih =>
    intro j ω
    unfold f_X8_records_10
    split
    · rw [rec50_121]
      rfl
    · rw [ih]
      rfl
theorem records_121 (ω : Mem) : (f_X8_records ω) 121 = ω 121 := by
  unfold f_X8_records
  split
  · exact rec10_121 _ _ _
  · exact rec50_121 _ _ _
theorem entry2_congr : ∀ (fu : Nat) (t : Int32) (j : Nat) (ω ω' : Mem), ω' 121 = ω 121 → f_X8_entryAt_2 fu t j ω' = f_X8_entryAt_2 fu t j ω := by
  intro fu
  induction fu with
  | zero => intro t j ω ω' h; rfl
  | succ fu ih =>
    intro t j ω ω' h
    unfold f_X8_entryAt_2
    rw [h, ih t (j + 1) ω ω' h]
theorem entryAt_congr {t : Int32} {ω ω' : Mem} (h : ω' 121 = ω 121) : f_X8_entryAt t ω' = f_X8_entryAt t ω := entry2_congr 13 t 0 ω ω' h
def f_X8_plan_82 (t : Int32) (d : Int32) (ω : Mem) : Int32 × Mem := (((f_X8_plans t d (f_X8_records ω)) 121 43), (f_X8_plans t d (f_X8_records ω)))
def f_X8_plan_5 (t : Int32) (d : Int32) (ω : Mem) : Int32 × Mem := (if (f_X8_in t 0 9999 ω) = 0 then ((-2), ω) else (if (f_X8_in d 0 9 ω) = 0 then ((-2), ω) else (if (f_X8_entryAt t ω) = (-5) then (if (ω 121 43) = 12 then ((-3), ω) else (f_X8_plan_82 t d ω)) else (if (ω 121 (44 + 2 * ((f_X8_entryAt t ω).toNatClampNeg) + 1)) = d then ((-5), ω) else (f_X8_plan_82 t d ω)))))
def f_X8_plan (t : Int32) (d : Int32) (ω : Mem) : Int32 × Mem := (f_X8_plan_5 t d (st ω 120 0 0))
theorem plans20_fr : ∀ (fu : Nat) (t d : Int32) (j : Nat) (ω : Mem) (i : Nat), i ≠ 121 → (f_X8_plans_20 fu t d j ω) i = ω i := by
  intro fu
  induction fu with
  | zero => intro t d j ω i hi; rfl
  | succ fu ih =>
    intro t d j ω i hi
    unfold f_X8_plans_20
    split
    · unfold f_X8_plans_108
      rw [st_nei (fun e => hi e.symm), st_nei (fun e => hi e.symm), st_nei (fun e => hi e.symm)]
    · split
      · unfold f_X8_plans_108
        rw [st_nei (fun e => hi e.symm), st_nei (fun e => hi e.symm), st_nei (fun e => hi e.symm)]
      · rw [ih _ _ _ _ i hi, st_nei (fun e => hi e.symm), st_nei (fun e => hi e.symm)]
theorem plans_fr {t d : Int32} {ω : Mem} {i : Nat} (hi : i ≠ 121) : (f_X8_plans t d ω) i = ω i := by
  unfold f_X8_plans
  split
  · exact plans20_fr _ _ _ _ _ i hi
  · unfold f_X8_plans_108
    rw [st_nei (fun e => hi e.symm), st_nei (fun e => hi e.symm)]
theorem rec50_fr : ∀ (fu j : Nat) (ω : Mem), (∀ i, i ≠ 120 → i ≠ 123 → (f_X8_records_50 fu j ω) i = ω i) ∧ ∀ k, k ≠ 4 → (f_X8_records_50 fu j ω) 120 k = ω 120 k := by
  intro fu
  induction fu with
  | zero => intro j ω; exact ⟨fun _ _ _ => rfl, fun _ _ => rfl⟩
  | succ fu ih =>
    intro j ω
    unfold f_X8_records_50
    split
    · exact ⟨fun i h1 h2 => st_nei (fun e => h1 e.symm), fun k hk => st_ne (fun e => hk e.symm)⟩
    · exact ⟨fun i h1 h2 => ((ih _ _).1 i h1 h2).trans (st_nei (fun e => h2 e.symm)), fun k hk => ((ih _ _).2 k hk).trans (by rw [st_nei (by decide)])⟩
theorem rec10_fr : ∀ (fu j : Nat) (ω : Mem), (∀ i, i ≠ 120 → i ≠ 123 → (f_X8_records_10 fu j ω) i = ω i) ∧ ∀ k, k ≠ 4 → (f_X8_records_10 fu j ω) 120 k = ω 120 k := by
  intro fu
  induction fu with
  | zero => intro j ω; exact ⟨fun _ _ _ => rfl, fun _ _ => rfl⟩
  | succ fu ih =>
    intro j ω
    unfold f_X8_records_10
    split
    · exact ⟨fun i h1 h2 => ((rec50_fr _ _ _).1 i h1 h2).trans (st_nei (fun e => h1 e.symm)), fun k hk => ((rec50_fr _ _ _).2 k hk).trans (st_ne (fun e => hk e.symm))⟩
    · exact ⟨fun i h1 h2 => ((ih _ _).1 i h1 h2).trans (st_nei (fun e => h2 e.symm)), fun k hk => ((ih _ _).2 k hk).trans (by rw [st_nei (by decide)])⟩
theorem records_fr (ω : Mem) : (∀ i, i ≠ 120 → i ≠ 123 → (f_X8_records ω) i = ω i) ∧ ∀ k, k ≠ 4 → (f_X8_records ω) 120 k = ω 120 k := by
  unfold f_X8_records
  split
  · exact rec10_fr _ _ _
  · exact rec50_fr _ _ _
