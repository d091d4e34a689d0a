/-! what all calls tell, as one number -/
def dl (f : Nat → Int32) : Nat → Nat → Int64 → Int64
  | 0, _, h => h
  | n + 1, j, h => dl f n (j + 1) (31 * h + (f j).toInt64)
def dl2 (f g : Nat → Int32) : Nat → Nat → Int64 → Int64
  | 0, _, h => h
  | n + 1, j, h => dl2 f g n (j + 1) (31 * (31 * h + (f j).toInt64) + (g j).toInt64)
theorem dl_congr {f g : Nat → Int32} : ∀ (n j : Nat) (h : Int64), (∀ i, j ≤ i → i < j + n → f i = g i) → dl f n j h = dl g n j h := by
  intro n
  induction n with
  | zero => exact fun j h _ => rfl
  | succ n ih =>
    intro j h hc
    unfold dl
    rw [hc j (by omega) (by omega)]
    exact ih _ _ (fun i h1 h2 => hc i (by omega) (by omega))
theorem dl2_congr {f f' g g' : Nat → Int32} : ∀ (n j : Nat) (h : Int64), (∀ i, j ≤ i → i < j + n → f i = f' i ∧ g i = g' i) → dl2 f g n j h = dl2 f' g' n j h := by
  intro n
  induction n with
  | zero => exact fun j h _ => rfl
  | succ n ih =>
    intro j h hc
    unfold dl2
    rw [(hc j (by omega) (by omega)).1, (hc j (by omega) (by omega)).2]
    exact ih _ _ (fun i h1 h2 => hc i (by omega) (by omega))
def dEnd (g : Nat → Int32) (h : Int64) : Int64 := 31 * (31 * (31 * (31 * h + (g 0).toInt64) + (g 1).toInt64) + (g 2).toInt64) + (g 3).toInt64
def digF (c b e0 e1 v g : Nat → Int32) : Int64 := dEnd g (dl v 30 0 (dl2 e0 e1 12 0 (dl b 48 0 (dl c 13 0 3))))
theorem digF_congr {c b e0 e1 v g c' b' e0' e1' v' g' : Nat → Int32} (hc : ∀ i, i < 13 → c i = c' i) (hb : ∀ i, i < 48 → b i = b' i) (he : ∀ i, i < 12 → e0 i = e0' i ∧ e1 i = e1' i) (hv : ∀ i, i < 30 → v i = v' i) (hg : ∀ i, i < 4 → g i = g' i) : digF c b e0 e1 v g = digF c' b' e0' e1' v' g' := by
  unfold digF dEnd
  rw [dl_congr 13 0 3 (fun i _ h => hc i (by omega)), dl_congr 48 0 _ (fun i _ h => hb i (by omega)), dl2_congr 12 0 _ (fun i _ h => he i (by omega)), dl_congr 30 0 _ (fun i _ h => hv i (by omega)), hg 0 (by decide), hg 1 (by decide), hg 2 (by decide), hg 3 (by decide)]
/-- the class's number -/
def dig (ω : Mem) : Int64 := digF (fun j => f_X7_count (nI j) ω) (fun j => f_X7_burner (j / 12) (nI (j % 12)) ω) (fun j => f_X7_entry (nI j) 0 ω) (fun j => f_X7_entry (nI j) 1 ω) (fun j => f_X7_event (nI (j / 3)) (nI (j % 3)) ω) (fun j => f_X7_setting (nI j) ω)
/-- the ghost's -/
def dgm (μ : Mem) : Int64 := digF (fun j => (f_X8_count (nI j) μ).1) (fun j => (f_X8_burner (j / 12) (nI (j % 12)) μ).1) (fun j => (f_X8_entry (nI j) 0 μ).1) (fun j => (f_X8_entry (nI j) 1 μ).1) (fun j => (f_X8_event (nI (j / 3)) (nI (j % 3)) μ).1) (fun j => (f_X8_setting (nI j) μ).1)
theorem dig_eq {ω μ : Mem} (h : LW ω μ) : dig ω = dgm μ := by
  unfold dig dgm
  refine digF_congr (fun i hi => ?_) (fun i hi => ?_) (fun i hi => ⟨?_, ?_⟩) (fun i hi => ?_) (fun i hi => ?_)
  · exact (op_count (w := nI i) h (fun e => by have := (nI_eq (a := i) (b := 13) (by omega) (by decide)).1 e; omega)).1
  · exact (op_burner (k := i / 12) (w := nI (i % 12)) h (by omega)).1
  · exact (op_entry (x := nI i) (w := 0) h).1
  · exact (op_entry (x := nI i) (w := 1) h).1
  · exact (op_event (x := nI (i / 3)) (w := nI (i % 3)) h).1
  · exact (op_setting (w := nI i) h).1
/-- of a state alone -/
def gm (s p : Nat → Int32) : Mem := fun i => if i = 121 then s else if i = 124 then p else if i = 120 then (fun k => if k = 6 then 1 else 0) else fun _ => 0
/-! an act of the law -/
def lowf (x n : Int32) : Int32 := (x &&& 2147483647) - (x &&& 2147483647) / n * n
theorem low_nat (x : Int32) (d : Nat) (h0 : 0 < d) (hd : d < 2 ^ 31) : ∃ k, k < d ∧ lowf x (nI d) = nI k := by
  have e : x &&& 2147483647 = nI (x.toBitVec.toNat % 2 ^ 31) := by
    apply Int32.toBitVec_inj.mp
    apply BitVec.eq_of_toNat_eq
    rw [pk_tn (by omega), Int32.toBitVec_and, BitVec.toNat_and]
    exact Nat.and_two_pow_sub_one_eq_mod _ 31
  refine ⟨x.toBitVec.toNat % 2 ^ 31 % d, Nat.mod_lt _ h0, ?_⟩
  unfold lowf
  rw [e]
  exact pk_rem (by omega) h0 hd
def burn (x : Int32) (f : Nat → Int32 × Mem) (ω : Mem) : Int32 × Mem := if x < 0 ∨ 4 ≤ x then (-1, ω) else f x.toNatClampNeg
def passX (f : Nat → Int32 × Mem) (x : Int32) (ω : Mem) : Int32 × Mem := if x < 1 ∨ 200 < x then (-2, ω) else f x.toNatClampNeg
def par1 (w : Int32) : Int32 := if w &&& 1 = 0 then 1 else 0
def mSet (w : Int32) : Int32 := if (w >>> ((12 : Int32) &&& 31)) &&& 1 = 0 then 30 else 500
def mPass (w : Int32) : Int32 := if (w >>> ((9 : Int32) &&& 31)) &&& 3 = 0 then 210 else 15
def bOf (v : Int32) : Int32 := lowf (v >>> ((4 : Int32) &&& 31)) 5
def actF (v w : Int32) (ω : Mem) : Nat → Int32 × Mem
  | 0 => f_X7_set (lowf (v >>> ((4 : Int32) &&& 31)) 4) (lowf w (mSet w)) ω
  | 1 => burn (bOf v) (fun k => f_X7_setKind k (lowf w 3) ω) ω
  | 2 => f_X7_plan (f_X7_count 0 ω + lowf w 20) (lowf (w >>> ((5 : Int32) &&& 31)) 11) ω
  | 3 | 4 => burn (bOf v) (fun k => f_X7_turn k (lowf w 3) ω) ω
  | 5 | 6 => burn (bOf v) (fun k => f_X7_press k (par1 w) ω) ω
  | 7 => burn (bOf v) (fun k => f_X7_igniter k (par1 w) ω) ω
  | 8 | 9 => burn (bOf v) (fun k => f_X7_light k ω) ω
  | 10 => burn (bOf v) (fun k => f_X7_unlock k ω) ω
  | 11 => f_X7_restore ω
  | _ => passX (fun t => f_X7_pass t ω) (1 + lowf w (mPass w)) ω
def actM (v w : Int32) (μ : Mem) : Nat → Int32 × Mem
  | 0 => f_X8_set (lowf (v >>> ((4 : Int32) &&& 31)) 4) (lowf w (mSet w)) μ
  | 1 => burn (bOf v) (fun k => f_X8_setKind k (lowf w 3) μ) μ
  | 2 => f_X8_plan ((f_X8_count 0 μ).1 + lowf w 20) (lowf (w >>> ((5 : Int32) &&& 31)) 11) μ
  | 3 | 4 => burn (bOf v) (fun k => f_X8_turn k (lowf w 3) μ) μ
  | 5 | 6 => burn (bOf v) (fun k => f_X8_press k (par1 w) μ) μ
  | 7 => burn (bOf v) (fun k => f_X8_igniter k (par1 w) μ) μ
  | 8 | 9 => burn (bOf v) (fun k => f_X8_light k μ) μ
  | 10 => burn (bOf v) (fun k => f_X8_unlock k μ) μ
  | 11 => f_X8_restore μ
  | _ => passX (fun t => f_X8_pass t μ) (1 + lowf w (mPass w)) μ
def sel (v : Int32) : Nat := (v &&& 15).toNatClampNeg
def WW (a b : Int32 × Mem) : Prop := a.1 = b.1 ∧ LW a.2 b.2
theorem OPW.w {ω μ : Mem} {a b : Int32 × Mem} (h : OPW ω μ a b) : WW a b := ⟨h.1, h.2.1⟩
theorem burn_4 {x : Int32} (h : ¬ (x < 0 ∨ 4 ≤ x)) : x.toNatClampNeg < 4 ∧ x = nI x.toNatClampNeg := by
  have h3 : (3 : Int32).toInt = (3 : Nat) := by decide
  have h4 : (4 : Int32).toInt = 4 := by decide
  obtain ⟨k, hk, e⟩ := nI_of2 (x := x) (M := 3) h3 (fun q => h (Or.inl q)) (by
    rw [Int32.le_iff_toInt_le]
    have : ¬ (4 : Int32) ≤ x := fun q => h (Or.inr q)
    rw [Int32.le_iff_toInt_le] at this
    omega)
  rw [e, nI_clamp (by omega)]
  exact ⟨by omega, rfl⟩
theorem tick_200 {x : Int32} (h : ¬ (x < 1 ∨ 200 < x)) : (1 ≤ x.toNatClampNeg ∧ x.toNatClampNeg ≤ 200) ∧ x = nI x.toNatClampNeg := by
  have h3 : (200 : Int32).toInt = (200 : Nat) := by decide
  have h1 : (1 : Int32).toInt = 1 := by decide
  have h0 : (0 : Int32).toInt = 0 := by decide
  have g1 : ¬ x < 1 := fun q => h (Or.inl q)
  have g2 : ¬ 200 < x := fun q => h (Or.inr q)
  rw [Int32.lt_iff_toInt_lt] at g1 g2
  obtain ⟨k, hk, e⟩ := nI_of2 (x := x) (M := 200) h3 (fun q => by rw [Int32.lt_iff_toInt_lt] at q; omega) (by rw [Int32.le_iff_toInt_le]; omega)
  rw [e, nI_toInt (by omega)] at g1
  rw [e, nI_clamp (by omega)]
  exact ⟨⟨by omega, hk⟩, rfl⟩
theorem burn_w {x : Int32} {f g : Nat → Int32 × Mem} {ω μ : Mem} (h : LW ω μ) (hf : ∀ k, k < 4 → WW (f k) (g k)) : WW (burn x f ω) (burn x g μ) := by
  unfold burn
  by_cases q : x < 0 ∨ 4 ≤ x
  · rw [if_pos q, if_pos q]; exact ⟨rfl, h⟩
  · rw [if_neg q, if_neg q]; exact hf _ (burn_4 q).1
theorem burn_c {x : Int32} {f : Nat → Int32 × Mem} {ω : Mem} (hf : ∀ k, k < 4 → AC ω (f k)) : AC ω (burn x f ω) := by
  unfold burn
  by_cases q : x < 0 ∨ 4 ≤ x
  · rw [if_pos q]; exact AC.no (by decide)
  · rw [if_neg q]; exact hf _ (burn_4 q).1
theorem par1_bb (w : Int32) : bb (par1 w) = par1 w := by
  unfold par1
  by_cases q : w &&& 1 = 0
  · rw [if_pos q]; decide
  · rw [if_neg q]; decide
theorem act_w {v w : Int32} {ω μ : Mem} (h : LW ω μ) : ∀ n, WW (actF v w ω n) (actM v w μ n)
  | 0 => (op_set h).w
  | 1 => burn_w h (fun k hk => (op_setKind h hk).w)
  | 2 => by
    have e : f_X7_count 0 ω = (f_X8_count 0 μ).1 := (op_count (w := 0) h (by decide)).1
    show WW (f_X7_plan (f_X7_count 0 ω + lowf w 20) (lowf (w >>> ((5 : Int32) &&& 31)) 11) ω) (f_X8_plan ((f_X8_count 0 μ).1 + lowf w 20) (lowf (w >>> ((5 : Int32) &&& 31)) 11) μ)
    rw [e]
    exact (op_plan h).w
  | 3 => burn_w h (fun k hk => (op_turn h hk).w)
  | 4 => burn_w h (fun k hk => (op_turn h hk).w)
  | 5 => burn_w h (fun k hk => (op_press h hk (par1_bb w)).w)
  | 6 => burn_w h (fun k hk => (op_press h hk (par1_bb w)).w)
  | 7 => burn_w h (fun k hk => (op_igniter h hk (par1_bb w)).w)
  | 8 => burn_w h (fun k hk => (op_light h hk).w)
  | 9 => burn_w h (fun k hk => (op_light h hk).w)
  | 10 => burn_w h (fun k hk => (op_unlock h hk).w)
  | 11 => (op_restore h).w
  | n + 12 => by
    show WW (passX (fun t => f_X7_pass t ω) (1 + lowf w (mPass w)) ω) (passX (fun t => f_X8_pass t μ) (1 + lowf w (mPass w)) μ)
    unfold passX
    by_cases q : 1 + lowf w (mPass w) < 1 ∨ 200 < 1 + lowf w (mPass w)
    · rw [if_pos q, if_pos q]; exact ⟨rfl, h⟩
    · rw [if_neg q, if_neg q]; exact (op_pass h (tick_200 q).1).w
theorem act_c {v w : Int32} {ω μ : Mem} {p : Nat → Int32} (h : LW ω μ) (hJ : JC 1 ω) (hs : ¬ bb (ω 0 6) = 0) (hp : SX 17 ω p) (jp : JV p) : ∀ n, AC ω (actF v w ω n)
  | 0 => ac_set h hJ
  | 1 => burn_c (fun k hk => ac_setKind h hJ hk)
  | 2 => ac_plan h hJ
  | 3 => burn_c (fun k hk => ac_turn h hJ hk)
  | 4 => burn_c (fun k hk => ac_turn h hJ hk)
  | 5 => burn_c (fun k hk => ac_press h hJ hk)
  | 6 => burn_c (fun k hk => ac_press h hJ hk)
  | 7 => burn_c (fun k hk => ac_igniter h hJ hk)
  | 8 => burn_c (fun k hk => ac_light h hJ hk)
  | 9 => burn_c (fun k hk => ac_light h hJ hk)
  | 10 => burn_c (fun k hk => ac_unlock h hJ hk)
  | 11 => (restore_at h hs hp jp).1
  | n + 12 => by
    show AC ω (passX (fun t => f_X7_pass t ω) (1 + lowf w (mPass w)) ω)
    unfold passX
    by_cases q : 1 + lowf w (mPass w) < 1 ∨ 200 < 1 + lowf w (mPass w)
    · rw [if_pos q]; exact AC.no (by decide)
    · rw [if_neg q]; exact ac_pass h hJ (tick_200 q).1
/-! the ghost's number is its row's alone -/
theorem get_cg {k w : Nat} {μ μ' : Mem} (h : μ' 121 = μ 121) : f_X8_get k w μ' = f_X8_get k w μ := by
  unfold f_X8_get
  rw [h]
theorem open_cg {k : Nat} {μ μ' : Mem} (h : μ' 121 = μ 121) : f_X8_isOpen k μ' = f_X8_isOpen k μ := by
  unfold f_X8_isOpen f_X8_get
  rw [h]
theorem str_cg {k : Nat} {μ μ' : Mem} (h : μ' 121 = μ 121) : f_X8_strength k μ' = f_X8_strength k μ := by
  unfold f_X8_strength f_X8_strengthOf f_X8_choose f_X8_get
  rw [h]
theorem sum_cg {w : Nat} {μ μ' : Mem} (h : μ' 121 = μ 121) : f_X8_sumOver w μ' = f_X8_sumOver w μ := by
  unfold f_X8_sumOver f_X8_get
  rw [h]
theorem draft4_cg {μ μ' : Mem} (h : μ' 121 = μ 121) : ∀ (fu : Nat) (t d : Int32) (j : Nat), f_X8_draftAt_4 fu t d j μ' = f_X8_draftAt_4 fu t d j μ := by
  intro fu
  induction fu with
  | zero => exact fun _ _ _ => rfl
  | succ fu ih =>
    intro t d j
    unfold f_X8_draftAt_4
    simp only [h, ih]
theorem draft_cg {t : Int32} {μ μ' : Mem} (h : μ' 121 = μ 121) : f_X8_draftAt t μ' = f_X8_draftAt t μ := draft4_cg h _ _ _ _
theorem vlv4_cg {μ μ' : Mem} (h : μ' 121 = μ 121) : ∀ (fu : Nat) (v : Int32) (j : Nat), f_X8_openValves_4 fu v j μ' = f_X8_openValves_4 fu v j μ := by
  intro fu
  induction fu with
  | zero => exact fun _ _ => rfl
  | succ fu ih =>
    intro v j
    unfold f_X8_openValves_4
    simp only [open_cg h, ih]
theorem vlv_cg {μ μ' : Mem} (h : μ' 121 = μ 121) : f_X8_openValves μ' = f_X8_openValves μ := vlv4_cg h _ _ _
theorem count5_cg {w : Int32} {μ μ' : Mem} (h : μ' 121 = μ 121) (h13 : ¬ w = 13) (h14 : ¬ w = 14) : (f_X8_count_5 w μ').1 = (f_X8_count_5 w μ).1 := by
  have i1 : f_X8_in w 4 7 μ' = f_X8_in w 4 7 μ := rfl
  unfold f_X8_count_5
  simp only [apply_ite Prod.fst, h, i1, sum_cg h, draft_cg h, vlv_cg h, if_neg h13, if_neg h14]
theorem burner5_cg {k : Nat} {w : Int32} {μ μ' : Mem} (h : μ' 121 = μ 121) : (f_X8_burner_5 k w μ').1 = (f_X8_burner_5 k w μ).1 := by
  have i1 : f_X8_in w 0 5 μ' = f_X8_in w 0 5 μ := rfl
  have i2 : f_X8_isBurner (nI k) μ' = f_X8_isBurner (nI k) μ := rfl
  unfold f_X8_burner_5
  simp only [apply_ite Prod.fst, i1, i2, get_cg h, open_cg h, str_cg h]
theorem entry5_cg {x w : Int32} {μ μ' : Mem} (h : μ' 121 = μ 121) : (f_X8_entry_5 x w μ').1 = (f_X8_entry_5 x w μ).1 := by
  have i1 : f_X8_in w 0 1 μ' = f_X8_in w 0 1 μ := rfl
  unfold f_X8_entry_5
  simp only [apply_ite Prod.fst, i1, h]
theorem event5_cg {x w : Int32} {μ μ' : Mem} (h : μ' 121 = μ 121) : (f_X8_event_5 x w μ').1 = (f_X8_event_5 x w μ).1 := by
  have i1 : f_X8_in w 0 2 μ' = f_X8_in w 0 2 μ := rfl
  unfold f_X8_event_5
  simp only [apply_ite Prod.fst, i1, h]
theorem setting5_cg {w : Int32} {μ μ' : Mem} (h : μ' 121 = μ 121) : (f_X8_setting_5 w μ').1 = (f_X8_setting_5 w μ).1 := by
  have i1 : f_X8_in w 0 3 μ' = f_X8_in w 0 3 μ := rfl
  unfold f_X8_setting_5
  simp only [apply_ite Prod.fst, i1, h]
theorem st0_cg {μ μ' : Mem} (h : μ' 121 = μ 121) : (st μ' 120 0 0) 121 = (st μ 120 0 0) 121 := by
  rw [st_nei (by decide), st_nei (by decide)]; exact h
theorem dgm_cg {μ μ' : Mem} (h : μ' 121 = μ 121) : dgm μ' = dgm μ := by
  have h0 := st0_cg h
  unfold dgm
  refine digF_congr (fun i hi => ?_) (fun i hi => burner5_cg h0) (fun i hi => ⟨entry5_cg h0, entry5_cg h0⟩) (fun i hi => event5_cg h0) (fun i hi => setting5_cg h0)
  exact count5_cg h0 (fun e => by have := (nI_eq (a := i) (b := 13) (by omega) (by decide)).1 e; omega) (fun e => by have := (nI_eq (a := i) (b := 14) (by omega) (by decide)).1 e; omega)
