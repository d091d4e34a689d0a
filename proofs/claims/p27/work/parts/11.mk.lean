/-! the memory: number of cell, number of slot; the two objects are 120 cells -/
abbrev Mem : Type := Nat → Nat → Int32
def bb (x : Int32) : Int32 := x &&& 1
def kdL : List Nat := [0, 1, 2, 12, 3, 4, 4, 4, 4, 5, 12, 12, 6, 12, 12, 12, 12, 1, 2, 12, 3, 4, 4, 4, 4, 5, 12, 12, 6, 12, 12, 12, 12, 1, 2, 12, 3, 4, 4, 4, 4, 5, 12, 12, 6, 12, 12, 12, 12, 5, 12, 12, 7, 8, 1, 2, 12, 3, 4, 4, 4, 4, 5, 12, 12, 6, 12, 12, 12, 12, 1, 2, 12, 3, 4, 4, 4, 4, 5, 12, 12, 6, 12, 12, 12, 12, 1, 2, 12, 3, 4, 4, 4, 4, 5, 12, 12, 6, 12, 12, 12, 12, 1, 2, 12, 3, 4, 4, 4, 4, 5, 12, 12, 6, 12, 12, 12, 12, 9, 10, 11, 12, 12, 12, 12, 12, 12, 12]
def lnL : List Nat := [0, 0, 0, 4, 0, 0, 0, 0, 0, 0, 12, 12, 0, 10, 10, 10, 4, 0, 0, 4, 0, 0, 0, 0, 0, 0, 12, 12, 0, 10, 10, 10, 4, 0, 0, 4, 0, 0, 0, 0, 0, 0, 12, 12, 0, 10, 10, 10, 4, 0, 12, 12, 0, 4, 0, 0, 4, 0, 0, 0, 0, 0, 0, 12, 12, 0, 10, 10, 10, 4, 0, 0, 4, 0, 0, 0, 0, 0, 0, 12, 12, 0, 10, 10, 10, 4, 0, 0, 4, 0, 0, 0, 0, 0, 0, 12, 12, 0, 10, 10, 10, 4, 0, 0, 4, 0, 0, 0, 0, 0, 0, 12, 12, 0, 10, 10, 10, 4, 0, 60, 0, 108, 108, 432, 108, 60, 32, 32]
def kd (i : Nat) : Nat := kdL.getD i 99
def ln (i : Nat) : Nat := lnL.getD i 0
def st (ω : Mem) (i k : Nat) (v : Int32) : Mem := va_up ω i (upd (ω i) k v)
def mk (X : Nat → ClassId) (ad : Nat → Nat) (ω : Mem) (i : Nat) : va_E := match kd i with
  | 0 => .inr (7, [.ref (ad (1)), .ref (ad (17)), .ref (ad (33)), .ref (ad (49)), .ref (ad (52)), .ref (ad (118)), .int (bb (ω i 6))])
  | 1 => .inr (5, [.ref (ad (i + 1)), .ref (ad (i + 3)), .ref (ad (i + 8)), .ref (ad (i + 11)), .int (ω i 4), .int (ω i 5), .int (ω i 6), .int (ω i 7)])
  | 2 => .inr (4, [.ref (ad (i + 1))])
  | 3 => .inl (X 2, (4, .inr (.inr (.inr (.inr (fun j => some (ad (i + 1 + j))))))))
  | 4 => .inr (0, [.int (ω i 0), .int (ω i 1), .int (bb (ω i 2)), .int (bb (ω i 3)), .int (bb (ω i 4)), .int (ω i 5), .int (bb (ω i 6)), .int (ω i 7), .int (ω i 8), .int (ω i 9)])
  | 5 => .inr (3, [.ref (ad (i + 1)), .ref (ad (i + 2)), .int (ω i 2)])
  | 6 => .inr (2, [.ref (ad (i + 1)), .ref (ad (i + 2)), .ref (ad (i + 3)), .ref (ad (i + 4)), .int (ω i 4)])
  | 7 => .inr (1, [.ref (ad (i + 1)), .int (ω i 1)])
  | 8 => .inl (X 3, (4, .inr (.inr (.inr (.inr (fun j => some (ad (ω i j).toNatClampNeg)))))))
  | 9 => .inr (6, [.ref (ad (i + 1)), .int (ω i 1)])
  | 10 => .inl (X 1, (60, .inl (ω i)))
  | 11 => .inr (8, [.int (ω i 0), .ref (ad (i + 1)), .ref (ad (i + 2)), .ref (ad (i + 3)), .int (ω i 4), .ref (ad (i + 4)), .int (bb (ω i 6)), .ref (ad (i + 5)), .int (ω i 8), .ref (ad (i + 6)), .ref (ad (i + 7)), .int (ω i 11), .int (ω i 12), .int (bb (ω i 13))])
  | _ => .inl (X 0, (ln i, .inl (ω i)))
theorem mk_0 {X : Nat → ClassId} {ad : Nat → Nat} {ω : Mem} {i : Nat} (h : kd i = 0) : mk X ad ω i = .inr (7, [.ref (ad (1)), .ref (ad (17)), .ref (ad (33)), .ref (ad (49)), .ref (ad (52)), .ref (ad (118)), .int (bb (ω i 6))]) := by simp only [mk, h]
theorem mk_1 {X : Nat → ClassId} {ad : Nat → Nat} {ω : Mem} {i : Nat} (h : kd i = 1) : mk X ad ω i = .inr (5, [.ref (ad (i + 1)), .ref (ad (i + 3)), .ref (ad (i + 8)), .ref (ad (i + 11)), .int (ω i 4), .int (ω i 5), .int (ω i 6), .int (ω i 7)]) := by simp only [mk, h]
theorem mk_2 {X : Nat → ClassId} {ad : Nat → Nat} {ω : Mem} {i : Nat} (h : kd i = 2) : mk X ad ω i = .inr (4, [.ref (ad (i + 1))]) := by simp only [mk, h]
theorem mk_3 {X : Nat → ClassId} {ad : Nat → Nat} {ω : Mem} {i : Nat} (h : kd i = 3) : mk X ad ω i = .inl (X 2, (4, .inr (.inr (.inr (.inr (fun j => some (ad (i + 1 + j)))))))) := by simp only [mk, h]
theorem mk_4 {X : Nat → ClassId} {ad : Nat → Nat} {ω : Mem} {i : Nat} (h : kd i = 4) : mk X ad ω i = .inr (0, [.int (ω i 0), .int (ω i 1), .int (bb (ω i 2)), .int (bb (ω i 3)), .int (bb (ω i 4)), .int (ω i 5), .int (bb (ω i 6)), .int (ω i 7), .int (ω i 8), .int (ω i 9)]) := by simp only [mk, h]
theorem mk_5 {X : Nat → ClassId} {ad : Nat → Nat} {ω : Mem} {i : Nat} (h : kd i = 5) : mk X ad ω i = .inr (3, [.ref (ad (i + 1)), .ref (ad (i + 2)), .int (ω i 2)]) := by simp only [mk, h]
theorem mk_6 {X : Nat → ClassId} {ad : Nat → Nat} {ω : Mem} {i : Nat} (h : kd i = 6) : mk X ad ω i = .inr (2, [.ref (ad (i + 1)), .ref (ad (i + 2)), .ref (ad (i + 3)), .ref (ad (i + 4)), .int (ω i 4)]) := by simp only [mk, h]
theorem mk_7 {X : Nat → ClassId} {ad : Nat → Nat} {ω : Mem} {i : Nat} (h : kd i = 7) : mk X ad ω i = .inr (1, [.ref (ad (i + 1)), .int (ω i 1)]) := by simp only [mk, h]
theorem mk_8 {X : Nat → ClassId} {ad : Nat → Nat} {ω : Mem} {i : Nat} (h : kd i = 8) : mk X ad ω i = .inl (X 3, (4, .inr (.inr (.inr (.inr (fun j => some (ad (ω i j).toNatClampNeg))))))) := by simp only [mk, h]
theorem mk_9 {X : Nat → ClassId} {ad : Nat → Nat} {ω : Mem} {i : Nat} (h : kd i = 9) : mk X ad ω i = .inr (6, [.ref (ad (i + 1)), .int (ω i 1)]) := by simp only [mk, h]
theorem mk_10 {X : Nat → ClassId} {ad : Nat → Nat} {ω : Mem} {i : Nat} (h : kd i = 10) : mk X ad ω i = .inl (X 1, (60, .inl (ω i))) := by simp only [mk, h]
theorem mk_11 {X : Nat → ClassId} {ad : Nat → Nat} {ω : Mem} {i : Nat} (h : kd i = 11) : mk X ad ω i = .inr (8, [.int (ω i 0), .ref (ad (i + 1)), .ref (ad (i + 2)), .ref (ad (i + 3)), .int (ω i 4), .ref (ad (i + 4)), .int (bb (ω i 6)), .ref (ad (i + 5)), .int (ω i 8), .ref (ad (i + 6)), .ref (ad (i + 7)), .int (ω i 11), .int (ω i 12), .int (bb (ω i 13))]) := by simp only [mk, h]
theorem mk_12 {X : Nat → ClassId} {ad : Nat → Nat} {ω : Mem} {i : Nat} (h : kd i = 12) : mk X ad ω i = .inl (X 0, (ln i, .inl (ω i))) := by simp only [mk, h]
theorem mk_12n {X : Nat → ClassId} {ad : Nat → Nat} {ω : Mem} {i N : Nat} (h : kd i = 12) (hn : ln i = N) : mk X ad ω i = .inl (X 0, (N, .inl (ω i))) := by rw [mk_12 h, hn]
theorem mk_other {X : Nat → ClassId} {ad : Nat → Nat} {ω : Mem} {i j : Nat} {f : Nat → Int32} (h : j ≠ i) : mk X ad (va_up ω i f) j = mk X ad ω j := by
  have e : va_up ω i f j = ω j := if_neg h
  unfold mk
  rw [e]
theorem mk_upd {X : Nat → ClassId} {ad : Nat → Nat} {ω : Mem} {i : Nat} {f : Nat → Int32} {x : va_E} (h : x = mk X ad (va_up ω i f) i) : va_up (mk X ad ω) i x = mk X ad (va_up ω i f) := by
  funext j
  by_cases hj : j = i
  · subst hj
    exact (if_pos rfl).trans h
  · rw [mk_other hj]
    exact if_neg hj
theorem mk_row {X : Nat → ClassId} {ad : Nat → Nat} {ω : Mem} {i N : Nat} {f : Nat → Int32} (h : kd i = 12) (hn : ln i = N) : va_up (mk X ad ω) i (.inl (X 0, (N, .inl f))) = mk X ad (va_up ω i f) := mk_upd (by rw [mk_12n h hn]; simp [va_up])
theorem mk_chr {X : Nat → ClassId} {ad : Nat → Nat} {ω : Mem} {i : Nat} {f : Nat → Int32} (h : kd i = 10) : va_up (mk X ad ω) i (.inl (X 1, (60, .inl f))) = mk X ad (va_up ω i f) := mk_upd (by rw [mk_10 h]; simp [va_up])
theorem mk_sts {X : Nat → ClassId} {ad : Nat → Nat} {ω : Mem} {i k j : Nat} (h : kd i = 8) (hj : j < 2 ^ 31) : va_up (mk X ad ω) i (.inl (X 3, (4, .inr (.inr (.inr (.inr (va_up (fun j => some (ad (ω i j).toNatClampNeg)) k (some (ad j))))))))) = mk X ad (st ω i k (nI j)) := mk_upd (by
  rw [mk_8 h]
  have hf : va_up (fun j => some (ad (ω i j).toNatClampNeg)) k (some (ad j)) = fun z => some (ad (va_up ω i (upd (ω i) k (nI j)) i z).toNatClampNeg) := by
    funext z
    by_cases hz : z = k
    · subst hz
      simp [va_up, upd, nI_clamp hj]
    · simp [va_up, upd, hz]
  rw [hf])
theorem mkp_0_6 {X : Nat → ClassId} {ad : Nat → Nat} {ω : Mem} {i : Nat} {v : Int32} (h : kd i = 0) (hb : bb v = v) : va_up (mk X ad ω) i (.inr (7, ([.ref (ad (1)), .ref (ad (17)), .ref (ad (33)), .ref (ad (49)), .ref (ad (52)), .ref (ad (118)), .int (bb (ω i 6))] : List Value).set 6 (.int v))) = mk X ad (st ω i 6 v) := mk_upd (by rw [mk_0 h]; simp [va_up, upd, hb])
theorem mkp_1_4 {X : Nat → ClassId} {ad : Nat → Nat} {ω : Mem} {i : Nat} {v : Int32} (h : kd i = 1) : va_up (mk X ad ω) i (.inr (5, ([.ref (ad (i + 1)), .ref (ad (i + 3)), .ref (ad (i + 8)), .ref (ad (i + 11)), .int (ω i 4), .int (ω i 5), .int (ω i 6), .int (ω i 7)] : List Value).set 4 (.int v))) = mk X ad (st ω i 4 v) := mk_upd (by rw [mk_1 h]; simp [va_up, upd])
theorem mkp_1_5 {X : Nat → ClassId} {ad : Nat → Nat} {ω : Mem} {i : Nat} {v : Int32} (h : kd i = 1) : va_up (mk X ad ω) i (.inr (5, ([.ref (ad (i + 1)), .ref (ad (i + 3)), .ref (ad (i + 8)), .ref (ad (i + 11)), .int (ω i 4), .int (ω i 5), .int (ω i 6), .int (ω i 7)] : List Value).set 5 (.int v))) = mk X ad (st ω i 5 v) := mk_upd (by rw [mk_1 h]; simp [va_up, upd])
theorem mkp_1_6 {X : Nat → ClassId} {ad : Nat → Nat} {ω : Mem} {i : Nat} {v : Int32} (h : kd i = 1) : va_up (mk X ad ω) i (.inr (5, ([.ref (ad (i + 1)), .ref (ad (i + 3)), .ref (ad (i + 8)), .ref (ad (i + 11)), .int (ω i 4), .int (ω i 5), .int (ω i 6), .int (ω i 7)] : List Value).set 6 (.int v))) = mk X ad (st ω i 6 v) := mk_upd (by rw [mk_1 h]; simp [va_up, upd])
theorem mkp_1_7 {X : Nat → ClassId} {ad : Nat → Nat} {ω : Mem} {i : Nat} {v : Int32} (h : kd i = 1) : va_up (mk X ad ω) i (.inr (5, ([.ref (ad (i + 1)), .ref (ad (i + 3)), .ref (ad (i + 8)), .ref (ad (i + 11)), .int (ω i 4), .int (ω i 5), .int (ω i 6), .int (ω i 7)] : List Value).set 7 (.int v))) = mk X ad (st ω i 7 v) := mk_upd (by rw [mk_1 h]; simp [va_up, upd])
theorem mkp_4_0 {X : Nat → ClassId} {ad : Nat → Nat} {ω : Mem} {i : Nat} {v : Int32} (h : kd i = 4) : va_up (mk X ad ω) i (.inr (0, ([.int (ω i 0), .int (ω i 1), .int (bb (ω i 2)), .int (bb (ω i 3)), .int (bb (ω i 4)), .int (ω i 5), .int (bb (ω i 6)), .int (ω i 7), .int (ω i 8), .int (ω i 9)] : List Value).set 0 (.int v))) = mk X ad (st ω i 0 v) := mk_upd (by rw [mk_4 h]; simp [va_up, upd])
theorem mkp_4_1 {X : Nat → ClassId} {ad : Nat → Nat} {ω : Mem} {i : Nat} {v : Int32} (h : kd i = 4) : va_up (mk X ad ω) i (.inr (0, ([.int (ω i 0), .int (ω i 1), .int (bb (ω i 2)), .int (bb (ω i 3)), .int (bb (ω i 4)), .int (ω i 5), .int (bb (ω i 6)), .int (ω i 7), .int (ω i 8), .int (ω i 9)] : List Value).set 1 (.int v))) = mk X ad (st ω i 1 v) := mk_upd (by rw [mk_4 h]; simp [va_up, upd])
theorem mkp_4_2 {X : Nat → ClassId} {ad : Nat → Nat} {ω : Mem} {i : Nat} {v : Int32} (h : kd i = 4) (hb : bb v = v) : va_up (mk X ad ω) i (.inr (0, ([.int (ω i 0), .int (ω i 1), .int (bb (ω i 2)), .int (bb (ω i 3)), .int (bb (ω i 4)), .int (ω i 5), .int (bb (ω i 6)), .int (ω i 7), .int (ω i 8), .int (ω i 9)] : List Value).set 2 (.int v))) = mk X ad (st ω i 2 v) := mk_upd (by rw [mk_4 h]; simp [va_up, upd, hb])
theorem mkp_4_3 {X : Nat → ClassId} {ad : Nat → Nat} {ω : Mem} {i : Nat} {v : Int32} (h : kd i = 4) (hb : bb v = v) : va_up (mk X ad ω) i (.inr (0, ([.int (ω i 0), .int (ω i 1), .int (bb (ω i 2)), .int (bb (ω i 3)), .int (bb (ω i 4)), .int (ω i 5), .int (bb (ω i 6)), .int (ω i 7), .int (ω i 8), .int (ω i 9)] : List Value).set 3 (.int v))) = mk X ad (st ω i 3 v) := mk_upd (by rw [mk_4 h]; simp [va_up, upd, hb])
theorem mkp_4_4 {X : Nat → ClassId} {ad : Nat → Nat} {ω : Mem} {i : Nat} {v : Int32} (h : kd i = 4) (hb : bb v = v) : va_up (mk X ad ω) i (.inr (0, ([.int (ω i 0), .int (ω i 1), .int (bb (ω i 2)), .int (bb (ω i 3)), .int (bb (ω i 4)), .int (ω i 5), .int (bb (ω i 6)), .int (ω i 7), .int (ω i 8), .int (ω i 9)] : List Value).set 4 (.int v))) = mk X ad (st ω i 4 v) := mk_upd (by rw [mk_4 h]; simp [va_up, upd, hb])
theorem mkp_4_5 {X : Nat → ClassId} {ad : Nat → Nat} {ω : Mem} {i : Nat} {v : Int32} (h : kd i = 4) : va_up (mk X ad ω) i (.inr (0, ([.int (ω i 0), .int (ω i 1), .int (bb (ω i 2)), .int (bb (ω i 3)), .int (bb (ω i 4)), .int (ω i 5), .int (bb (ω i 6)), .int (ω i 7), .int (ω i 8), .int (ω i 9)] : List Value).set 5 (.int v))) = mk X ad (st ω i 5 v) := mk_upd (by rw [mk_4 h]; simp [va_up, upd])
theorem mkp_4_6 {X : Nat → ClassId} {ad : Nat → Nat} {ω : Mem} {i : Nat} {v : Int32} (h : kd i = 4) (hb : bb v = v) : va_up (mk X ad ω) i (.inr (0, ([.int (ω i 0), .int (ω i 1), .int (bb (ω i 2)), .int (bb (ω i 3)), .int (bb (ω i 4)), .int (ω i 5), .int (bb (ω i 6)), .int (ω i 7), .int (ω i 8), .int (ω i 9)] : List Value).set 6 (.int v))) = mk X ad (st ω i 6 v) := mk_upd (by rw [mk_4 h]; simp [va_up, upd, hb])
theorem mkp_4_7 {X : Nat → ClassId} {ad : Nat → Nat} {ω : Mem} {i : Nat} {v : Int32} (h : kd i = 4) : va_up (mk X ad ω) i (.inr (0, ([.int (ω i 0), .int (ω i 1), .int (bb (ω i 2)), .int (bb (ω i 3)), .int (bb (ω i 4)), .int (ω i 5), .int (bb (ω i 6)), .int (ω i 7), .int (ω i 8), .int (ω i 9)] : List Value).set 7 (.int v))) = mk X ad (st ω i 7 v) := mk_upd (by rw [mk_4 h]; simp [va_up, upd])
theorem mkp_4_8 {X : Nat → ClassId} {ad : Nat → Nat} {ω : Mem} {i : Nat} {v : Int32} (h : kd i = 4) : va_up (mk X ad ω) i (.inr (0, ([.int (ω i 0), .int (ω i 1), .int (bb (ω i 2)), .int (bb (ω i 3)), .int (bb (ω i 4)), .int (ω i 5), .int (bb (ω i 6)), .int (ω i 7), .int (ω i 8), .int (ω i 9)] : List Value).set 8 (.int v))) = mk X ad (st ω i 8 v) := mk_upd (by rw [mk_4 h]; simp [va_up, upd])
theorem mkp_4_9 {X : Nat → ClassId} {ad : Nat → Nat} {ω : Mem} {i : Nat} {v : Int32} (h : kd i = 4) : va_up (mk X ad ω) i (.inr (0, ([.int (ω i 0), .int (ω i 1), .int (bb (ω i 2)), .int (bb (ω i 3)), .int (bb (ω i 4)), .int (ω i 5), .int (bb (ω i 6)), .int (ω i 7), .int (ω i 8), .int (ω i 9)] : List Value).set 9 (.int v))) = mk X ad (st ω i 9 v) := mk_upd (by rw [mk_4 h]; simp [va_up, upd])
theorem mkp_5_2 {X : Nat → ClassId} {ad : Nat → Nat} {ω : Mem} {i : Nat} {v : Int32} (h : kd i = 5) : va_up (mk X ad ω) i (.inr (3, ([.ref (ad (i + 1)), .ref (ad (i + 2)), .int (ω i 2)] : List Value).set 2 (.int v))) = mk X ad (st ω i 2 v) := mk_upd (by rw [mk_5 h]; simp [va_up, upd])
theorem mkp_6_4 {X : Nat → ClassId} {ad : Nat → Nat} {ω : Mem} {i : Nat} {v : Int32} (h : kd i = 6) : va_up (mk X ad ω) i (.inr (2, ([.ref (ad (i + 1)), .ref (ad (i + 2)), .ref (ad (i + 3)), .ref (ad (i + 4)), .int (ω i 4)] : List Value).set 4 (.int v))) = mk X ad (st ω i 4 v) := mk_upd (by rw [mk_6 h]; simp [va_up, upd])
theorem mkp_7_1 {X : Nat → ClassId} {ad : Nat → Nat} {ω : Mem} {i : Nat} {v : Int32} (h : kd i = 7) : va_up (mk X ad ω) i (.inr (1, ([.ref (ad (i + 1)), .int (ω i 1)] : List Value).set 1 (.int v))) = mk X ad (st ω i 1 v) := mk_upd (by rw [mk_7 h]; simp [va_up, upd])
theorem mkp_9_1 {X : Nat → ClassId} {ad : Nat → Nat} {ω : Mem} {i : Nat} {v : Int32} (h : kd i = 9) : va_up (mk X ad ω) i (.inr (6, ([.ref (ad (i + 1)), .int (ω i 1)] : List Value).set 1 (.int v))) = mk X ad (st ω i 1 v) := mk_upd (by rw [mk_9 h]; simp [va_up, upd])
theorem mkp_11_0 {X : Nat → ClassId} {ad : Nat → Nat} {ω : Mem} {i : Nat} {v : Int32} (h : kd i = 11) : va_up (mk X ad ω) i (.inr (8, ([.int (ω i 0), .ref (ad (i + 1)), .ref (ad (i + 2)), .ref (ad (i + 3)), .int (ω i 4), .ref (ad (i + 4)), .int (bb (ω i 6)), .ref (ad (i + 5)), .int (ω i 8), .ref (ad (i + 6)), .ref (ad (i + 7)), .int (ω i 11), .int (ω i 12), .int (bb (ω i 13))] : List Value).set 0 (.int v))) = mk X ad (st ω i 0 v) := mk_upd (by rw [mk_11 h]; simp [va_up, upd])
theorem mkp_11_4 {X : Nat → ClassId} {ad : Nat → Nat} {ω : Mem} {i : Nat} {v : Int32} (h : kd i = 11) : va_up (mk X ad ω) i (.inr (8, ([.int (ω i 0), .ref (ad (i + 1)), .ref (ad (i + 2)), .ref (ad (i + 3)), .int (ω i 4), .ref (ad (i + 4)), .int (bb (ω i 6)), .ref (ad (i + 5)), .int (ω i 8), .ref (ad (i + 6)), .ref (ad (i + 7)), .int (ω i 11), .int (ω i 12), .int (bb (ω i 13))] : List Value).set 4 (.int v))) = mk X ad (st ω i 4 v) := mk_upd (by rw [mk_11 h]; simp [va_up, upd])
theorem mkp_11_6 {X : Nat → ClassId} {ad : Nat → Nat} {ω : Mem} {i : Nat} {v : Int32} (h : kd i = 11) (hb : bb v = v) : va_up (mk X ad ω) i (.inr (8, ([.int (ω i 0), .ref (ad (i + 1)), .ref (ad (i + 2)), .ref (ad (i + 3)), .int (ω i 4), .ref (ad (i + 4)), .int (bb (ω i 6)), .ref (ad (i + 5)), .int (ω i 8), .ref (ad (i + 6)), .ref (ad (i + 7)), .int (ω i 11), .int (ω i 12), .int (bb (ω i 13))] : List Value).set 6 (.int v))) = mk X ad (st ω i 6 v) := mk_upd (by rw [mk_11 h]; simp [va_up, upd, hb])
theorem mkp_11_8 {X : Nat → ClassId} {ad : Nat → Nat} {ω : Mem} {i : Nat} {v : Int32} (h : kd i = 11) : va_up (mk X ad ω) i (.inr (8, ([.int (ω i 0), .ref (ad (i + 1)), .ref (ad (i + 2)), .ref (ad (i + 3)), .int (ω i 4), .ref (ad (i + 4)), .int (bb (ω i 6)), .ref (ad (i + 5)), .int (ω i 8), .ref (ad (i + 6)), .ref (ad (i + 7)), .int (ω i 11), .int (ω i 12), .int (bb (ω i 13))] : List Value).set 8 (.int v))) = mk X ad (st ω i 8 v) := mk_upd (by rw [mk_11 h]; simp [va_up, upd])
theorem mkp_11_11 {X : Nat → ClassId} {ad : Nat → Nat} {ω : Mem} {i : Nat} {v : Int32} (h : kd i = 11) : va_up (mk X ad ω) i (.inr (8, ([.int (ω i 0), .ref (ad (i + 1)), .ref (ad (i + 2)), .ref (ad (i + 3)), .int (ω i 4), .ref (ad (i + 4)), .int (bb (ω i 6)), .ref (ad (i + 5)), .int (ω i 8), .ref (ad (i + 6)), .ref (ad (i + 7)), .int (ω i 11), .int (ω i 12), .int (bb (ω i 13))] : List Value).set 11 (.int v))) = mk X ad (st ω i 11 v) := mk_upd (by rw [mk_11 h]; simp [va_up, upd])
theorem mkp_11_12 {X : Nat → ClassId} {ad : Nat → Nat} {ω : Mem} {i : Nat} {v : Int32} (h : kd i = 11) : va_up (mk X ad ω) i (.inr (8, ([.int (ω i 0), .ref (ad (i + 1)), .ref (ad (i + 2)), .ref (ad (i + 3)), .int (ω i 4), .ref (ad (i + 4)), .int (bb (ω i 6)), .ref (ad (i + 5)), .int (ω i 8), .ref (ad (i + 6)), .ref (ad (i + 7)), .int (ω i 11), .int (ω i 12), .int (bb (ω i 13))] : List Value).set 12 (.int v))) = mk X ad (st ω i 12 v) := mk_upd (by rw [mk_11 h]; simp [va_up, upd])
theorem mkp_11_13 {X : Nat → ClassId} {ad : Nat → Nat} {ω : Mem} {i : Nat} {v : Int32} (h : kd i = 11) (hb : bb v = v) : va_up (mk X ad ω) i (.inr (8, ([.int (ω i 0), .ref (ad (i + 1)), .ref (ad (i + 2)), .ref (ad (i + 3)), .int (ω i 4), .ref (ad (i + 4)), .int (bb (ω i 6)), .ref (ad (i + 5)), .int (ω i 8), .ref (ad (i + 6)), .ref (ad (i + 7)), .int (ω i 11), .int (ω i 12), .int (bb (ω i 13))] : List Value).set 13 (.int v))) = mk X ad (st ω i 13 v) := mk_upd (by rw [mk_11 h]; simp [va_up, upd, hb])
def isS (B : Nat) : Prop := B = 1 ∨ B = 17 ∨ B = 33 ∨ B = 54 ∨ B = 70 ∨ B = 86 ∨ B = 102
theorem kS {B : Nat} (h : isS B) : ∀ j, j < 16 → kd (B + j) = kd (1 + j) ∧ ln (B + j) = ln (1 + j) ∧ B + j < 120 := by rcases h with rfl | rfl | rfl | rfl | rfl | rfl | rfl <;> decide +kernel
theorem isS_lt {B : Nat} (h : isS B) : B < 103 := by rcases h with rfl | rfl | rfl | rfl | rfl | rfl | rfl <;> decide
theorem kS0 {B : Nat} (h : isS B) : kd B = 1 := (kS h 0 (by decide)).1
theorem bS0 {B : Nat} (h : isS B) : B < 120 := (kS h 0 (by decide)).2.2
theorem kS1 {B : Nat} (h : isS B) : kd (B + 1) = 2 := (kS h 1 (by decide)).1
theorem bS1 {B : Nat} (h : isS B) : (B + 1) < 120 := (kS h 1 (by decide)).2.2
theorem kS2 {B : Nat} (h : isS B) : kd (B + 2) = 12 := (kS h 2 (by decide)).1
theorem bS2 {B : Nat} (h : isS B) : (B + 2) < 120 := (kS h 2 (by decide)).2.2
theorem lS2 {B : Nat} (h : isS B) : ln (B + 2) = 4 := (kS h 2 (by decide)).2.1
theorem kS3 {B : Nat} (h : isS B) : kd (B + 3) = 3 := (kS h 3 (by decide)).1
theorem bS3 {B : Nat} (h : isS B) : (B + 3) < 120 := (kS h 3 (by decide)).2.2
theorem kS4 {B : Nat} (h : isS B) : kd (B + 4) = 4 := (kS h 4 (by decide)).1
theorem bS4 {B : Nat} (h : isS B) : (B + 4) < 120 := (kS h 4 (by decide)).2.2
theorem kS5 {B : Nat} (h : isS B) : kd (B + 5) = 4 := (kS h 5 (by decide)).1
theorem bS5 {B : Nat} (h : isS B) : (B + 5) < 120 := (kS h 5 (by decide)).2.2
theorem kS6 {B : Nat} (h : isS B) : kd (B + 6) = 4 := (kS h 6 (by decide)).1
theorem bS6 {B : Nat} (h : isS B) : (B + 6) < 120 := (kS h 6 (by decide)).2.2
theorem kS7 {B : Nat} (h : isS B) : kd (B + 7) = 4 := (kS h 7 (by decide)).1
theorem bS7 {B : Nat} (h : isS B) : (B + 7) < 120 := (kS h 7 (by decide)).2.2
theorem kS8 {B : Nat} (h : isS B) : kd (B + 8) = 5 := (kS h 8 (by decide)).1
theorem bS8 {B : Nat} (h : isS B) : (B + 8) < 120 := (kS h 8 (by decide)).2.2
theorem kS9 {B : Nat} (h : isS B) : kd (B + 9) = 12 := (kS h 9 (by decide)).1
theorem bS9 {B : Nat} (h : isS B) : (B + 9) < 120 := (kS h 9 (by decide)).2.2
theorem lS9 {B : Nat} (h : isS B) : ln (B + 9) = 12 := (kS h 9 (by decide)).2.1
theorem kS10 {B : Nat} (h : isS B) : kd (B + 10) = 12 := (kS h 10 (by decide)).1
theorem bS10 {B : Nat} (h : isS B) : (B + 10) < 120 := (kS h 10 (by decide)).2.2
theorem lS10 {B : Nat} (h : isS B) : ln (B + 10) = 12 := (kS h 10 (by decide)).2.1
theorem kS11 {B : Nat} (h : isS B) : kd (B + 11) = 6 := (kS h 11 (by decide)).1
theorem bS11 {B : Nat} (h : isS B) : (B + 11) < 120 := (kS h 11 (by decide)).2.2
theorem kS12 {B : Nat} (h : isS B) : kd (B + 12) = 12 := (kS h 12 (by decide)).1
theorem bS12 {B : Nat} (h : isS B) : (B + 12) < 120 := (kS h 12 (by decide)).2.2
theorem lS12 {B : Nat} (h : isS B) : ln (B + 12) = 10 := (kS h 12 (by decide)).2.1
theorem kS13 {B : Nat} (h : isS B) : kd (B + 13) = 12 := (kS h 13 (by decide)).1
theorem bS13 {B : Nat} (h : isS B) : (B + 13) < 120 := (kS h 13 (by decide)).2.2
theorem lS13 {B : Nat} (h : isS B) : ln (B + 13) = 10 := (kS h 13 (by decide)).2.1
theorem kS14 {B : Nat} (h : isS B) : kd (B + 14) = 12 := (kS h 14 (by decide)).1
theorem bS14 {B : Nat} (h : isS B) : (B + 14) < 120 := (kS h 14 (by decide)).2.2
theorem lS14 {B : Nat} (h : isS B) : ln (B + 14) = 10 := (kS h 14 (by decide)).2.1
theorem kS15 {B : Nat} (h : isS B) : kd (B + 15) = 12 := (kS h 15 (by decide)).1
theorem bS15 {B : Nat} (h : isS B) : (B + 15) < 120 := (kS h 15 (by decide)).2.2
theorem lS15 {B : Nat} (h : isS B) : ln (B + 15) = 4 := (kS h 15 (by decide)).2.1
/-- a cell that is a row of N numbers -/
def isR (i N : Nat) : Prop := i < 120 ∧ kd i = 12 ∧ ln i = N
def isB (i : Nat) : Prop := i < 120 ∧ kd i = 4
def isSet (i : Nat) : Prop := i < 120 ∧ kd i = 2 ∧ isR (i + 1) 4
def isPl (i : Nat) : Prop := i < 120 ∧ kd i = 5 ∧ isR (i + 1) 12 ∧ isR (i + 2) 12
def isLg (i : Nat) : Prop := i < 120 ∧ kd i = 6 ∧ isR (i + 1) 10 ∧ isR (i + 2) 10 ∧ isR (i + 3) 10 ∧ isR (i + 4) 4
theorem isS.set {B : Nat} (h : isS B) : isSet (B + 1) := ⟨bS1 h, kS1 h, bS2 h, kS2 h, lS2 h⟩
theorem isS.pl {B : Nat} (h : isS B) : isPl (B + 8) := ⟨bS8 h, kS8 h, ⟨bS9 h, kS9 h, lS9 h⟩, bS10 h, kS10 h, lS10 h⟩
theorem isS.lg {B : Nat} (h : isS B) : isLg (B + 11) := ⟨bS11 h, kS11 h, ⟨bS12 h, kS12 h, lS12 h⟩, ⟨bS13 h, kS13 h, lS13 h⟩, ⟨bS14 h, kS14 h, lS14 h⟩, bS15 h, kS15 h, lS15 h⟩
theorem isS.b0 {B : Nat} (h : isS B) : isB (B + 4) := ⟨bS4 h, kS4 h⟩
theorem isS.b1 {B : Nat} (h : isS B) : isB (B + 5) := ⟨bS5 h, kS5 h⟩
theorem isS.b2 {B : Nat} (h : isS B) : isB (B + 6) := ⟨bS6 h, kS6 h⟩
theorem isS.b3 {B : Nat} (h : isS B) : isB (B + 7) := ⟨bS7 h, kS7 h⟩
theorem isS.bn {B k : Nat} (h : isS B) (hk : k < 4) : isB (B + 4 + k) := by
  rcases (show k = 0 ∨ k = 1 ∨ k = 2 ∨ k = 3 by omega) with rfl | rfl | rfl | rfl
  · exact h.b0
  · exact h.b1
  · exact h.b2
  · exact h.b3
theorem bb_bb (x : Int32) : bb (bb x) = bb x := by
  unfold bb
  rw [Int32.and_assoc]
  congr 1
theorem nar_b {v : Int32} (h : bb v = v) : narrow .boolean (.int v) = .int v ∧ fits .boolean (.int v) = true := by
  rw [← h]
  unfold bb
  constructor
  · simp [narrow, Int32.and_assoc]
  · have h2 : v &&& 1 = 0 ∨ v &&& 1 = 1 := by
      obtain ⟨j, hj, e⟩ := pk_andE v (m := 1) 1 (by decide)
      rcases (show j = 0 ∨ j = 1 by omega) with rfl | rfl
      · exact Or.inl e
      · exact Or.inr e
    simp [fits, narrow, Int32.and_assoc]
    exact h2
/-- an index out of two compares -/
theorem vp_in_of2 {x L : Int32} {N : Nat} (h0 : ¬ x < 0) (h1 : ¬ L ≤ x) (hL : L.toInt = N) : vp_in x N := by
  rw [vp_in_iff]
  rw [Int32.lt_iff_toInt_lt] at h0
  rw [Int32.le_iff_toInt_le] at h1
  have : (0 : Int32).toInt = 0 := rfl
  omega
theorem tab_out {x : Int32} (lo hi : Int) (h : ∀ k : Nat, k ≤ (hi - lo).toNat → x.toInt ≠ lo + k) : x.toInt < lo ∨ hi < x.toInt := by
  by_cases h1 : x.toInt < lo
  · exact Or.inl h1
  · by_cases h2 : hi < x.toInt
    · exact Or.inr h2
    · exact absurd (by omega) (h (x.toInt - lo).toNat (by omega))
theorem mid12 {x : Int32} (h1 : ¬ x ≤ 0) (h2 : ¬ 12 ≤ x) : vp_in x 12 ∧ vp_in (x - 1) 12 ∧ (x + (-1)).toInt = x.toInt - 1 ∧ x + (-1) = x - 1 ∧ 0 < x.toInt ∧ x.toInt < 12 := by
  obtain ⟨j, hj, rfl⟩ := nI_of (x := x) (fun h => h1 (by rw [Int32.le_iff_toInt_le]; rw [Int32.lt_iff_toInt_lt] at h; omega))
  have h3 : ¬ j ≤ 0 := fun h => h1 ((nI_leI (b := 0) hj (by omega)).mpr h)
  have h4 : ¬ 12 ≤ j := fun h => h2 ((nI_leI (a := 12) (by omega) hj).mpr h)
  have e1 : nI j - 1 = nI (j - 1) := pk_sub (a := j) (b := 1) (by omega)
  have e2 : nI j + (-1) = nI (j - 1) := by
    have := pk_m1 (j - 1)
    rwa [show j - 1 + 1 = j by omega] at this
  refine ⟨vp_in_nI (by omega) (by decide), ?_, ?_, by rw [e1, e2], by rw [nI_toInt hj]; omega, by rw [nI_toInt hj]; omega⟩
  · rw [e1]
    exact vp_in_nI (by omega) (by decide)
  · rw [e2, nI_toInt (by omega), nI_toInt hj]
    omega
theorem pr1 {f : Int32 × Mem} {v : Int32} {w : Mem} (h : f = (v, w)) : some (Value.int f.1) = some (Value.int v) := by rw [h]
theorem pr2 {X : Nat → ClassId} {ad : Nat → Nat} {f : Int32 × Mem} {v : Int32} {w : Mem} (h : f = (v, w)) : mk X ad f.2 = mk X ad w := by rw [h]
/-- the history's row names states -/
def hstP (ω : Mem) : Prop := ∀ j, j < 4 → isS ((ω 53 j).toNatClampNeg)
theorem hstP_st {ω : Mem} {k e : Nat} (h : hstP ω) (he : isS e) : hstP (st ω 53 k (nI e)) := fun j hj => by
  by_cases hk : j = k
  · subst hk
    simp only [st, va_up, upd, if_true]
    rw [nI_clamp (by have := isS_lt he; omega)]
    exact he
  · simp only [st, va_up, upd, if_true, if_neg hk]
    exact h j hj
theorem hstP_ne {ω : Mem} {i k : Nat} {v : Int32} (h : hstP ω) (hi : i ≠ 53) : hstP (st ω i k v) := fun j hj => by
  have e : st ω i k v 53 = ω 53 := if_neg (fun z => hi z.symm)
  rw [e]
  exact h j hj
theorem vp_in_lt {x : Int32} {N : Nat} (h : vp_in x N) (hN : N < 2 ^ 31) : x.toNatClampNeg < N := by
  obtain ⟨j, hj, rfl⟩ := vp_in_of h hN
  rw [nI_clamp (by omega)]
  exact hj
theorem tb_in {x : Int32} (h1 : ¬ x ≤ 0) (h2 : x ≤ 4) : vp_in (x - 1) 4 := by
  obtain ⟨j, hj, rfl⟩ := nI_of (x := x) (fun h => h1 (by rw [Int32.le_iff_toInt_le]; rw [Int32.lt_iff_toInt_lt] at h; omega))
  have h3 : ¬ j ≤ 0 := fun h => h1 ((nI_leI (b := 0) hj (by omega)).mpr h)
  have h4 : j ≤ 4 := (nI_leI (b := 4) hj (by omega)).mp h2
  have e1 : nI j - 1 = nI (j - 1) := pk_sub (a := j) (b := 1) (by omega)
  rw [e1]
  exact vp_in_nI (by omega) (by decide)
theorem isS_sm {B : Nat} (h : isS B) : B < 2 ^ 31 := by have := isS_lt h; omega
theorem isS_1 : isS 1 := Or.inl rfl
theorem isS_17 : isS 17 := Or.inr (Or.inl rfl)
theorem isS_33 : isS 33 := Or.inr (Or.inr (Or.inl rfl))
/-- a number in 0 to n -/
def rg (x : Int32) (n : Nat) : Prop := x = nI x.toNatClampNeg ∧ x.toNatClampNeg ≤ n
theorem rg_of {n j : Nat} (h : j ≤ n) (hn : n < 2 ^ 31) : rg (nI j) n := by
  refine ⟨?_, ?_⟩ <;> rw [nI_clamp (by omega)]
  exact h
theorem rg_ne {x : Int32} {n : Nat} (h : rg x (n + 1)) (hn : n < 2 ^ 30) (hx : ¬ x = nI (n + 1)) : rg x n := by
  refine ⟨h.1, ?_⟩
  have h2 := h.2
  by_cases e : x.toNatClampNeg = n + 1
  · exact absurd (by rw [← e]; exact h.1) hx
  · omega
theorem rg_inc {x : Int32} {n : Nat} (h : rg x n) (hn : n < 2 ^ 30) : rg (x + 1) (n + 1) := by
  rw [h.1, nI_1]
  exact rg_of (by have := h.2; omega) (by omega)
theorem rg_mono {x : Int32} {n k : Nat} (h : rg x n) (hk : n ≤ k) : rg x k := ⟨h.1, Nat.le_trans h.2 hk⟩
theorem nI_dec {a : Nat} (h : 0 < a) : nI a + (-1) = nI (a - 1) := by
  have := pk_m1 (a - 1)
  rwa [show a - 1 + 1 = a by omega] at this
theorem st_ne {ω : Mem} {i k j : Nat} {v : Int32} (h : k ≠ j) : st ω i k v i j = ω i j := by
  unfold st va_up upd
  rw [if_pos rfl, if_neg (fun e => h e.symm)]
theorem st_nei {ω : Mem} {i k i2 : Nat} {v : Int32} (h : i ≠ i2) : st ω i k v i2 = ω i2 := if_neg (fun e => h e.symm)
theorem st_eq {ω : Mem} {i k : Nat} {v : Int32} : st ω i k v i k = v := by
  unfold st va_up upd
  rw [if_pos rfl, if_pos rfl]
def MIn (n : Nat) (ω : Mem) : Prop := rg (ω 121 12) n ∧ rg (ω 121 43) 12 ∧ rg (ω 120 4) 4
theorem MIn_s {n k : Nat} {ω : Mem} {v : Int32} (h : MIn n ω) (h1 : k ≠ 12) (h2 : k ≠ 43) : MIn n (st ω 121 k v) := ⟨by rw [st_ne h1]; exact h.1, by rw [st_ne h2]; exact h.2.1, h.2.2⟩
theorem MIn_o {n i k : Nat} {ω : Mem} {v : Int32} (h : MIn n ω) (h1 : i ≠ 120) (h2 : i ≠ 121) : MIn n (st ω i k v) := ⟨by rw [st_nei h2]; exact h.1, by rw [st_nei h2]; exact h.2.1, by rw [st_nei h1]; exact h.2.2⟩
theorem MIn_f {n k : Nat} {ω : Mem} {v : Int32} (h : MIn n ω) (h1 : k ≠ 4) : MIn n (st ω 120 k v) := ⟨h.1, h.2.1, by rw [st_ne h1]; exact h.2.2⟩
theorem MIn_12 {n k : Nat} {ω : Mem} {v : Int32} (h : MIn n ω) (hv : rg v k) : MIn k (st ω 121 12 v) := ⟨by rw [st_eq]; exact hv, by rw [st_ne (by decide)]; exact h.2.1, h.2.2⟩
theorem MIn_4 {n : Nat} {ω : Mem} {v : Int32} (h : MIn n ω) (hv : rg v 4) : MIn n (st ω 120 4 v) := ⟨h.1, h.2.1, by rw [st_eq]; exact hv⟩
theorem MIn_9 {ω : Mem} (h : MIn 10 ω) (hn : ¬ ω 121 12 = 10) : MIn 9 ω := ⟨rg_ne (n := 9) h.1 (by decide) hn, h.2⟩
theorem rg_10 {x : Int32} (h : x = 10) : rg (x - 1) 9 := by rw [h]; exact rg_of (j := 9) (by decide) (by decide)
theorem rg_4 {x : Int32} (h : x = 4) : rg (x - 1) 3 := by rw [h]; exact rg_of (j := 3) (by decide) (by decide)
/-- the reader's place, the text's length, how many entries it has -/
def TI (ω : Mem) : Prop := rg (ω 120 12) 60 ∧ rg (ω 120 8) 60 ∧ (ω 120 12).toNatClampNeg ≤ (ω 120 8).toNatClampNeg ∧ rg (ω 120 11) 20 ∧ 3 * (ω 120 11).toNatClampNeg ≤ (ω 120 12).toNatClampNeg
def TS (s : Nat) (ω : Mem) : Prop := TI ω ∧ (¬ bb (ω 120 13) = 0 → 3 * (ω 120 11).toNatClampNeg + s ≤ (ω 120 12).toNatClampNeg)
def FT (ω ω' : Mem) : Prop := (∀ i, i ≠ 120 → i ≠ 126 → i ≠ 127 → ω' i = ω i) ∧ ∀ k, k ≠ 11 → k ≠ 12 → k ≠ 13 → ω' 120 k = ω 120 k
theorem FT.rf {ω : Mem} : FT ω ω := ⟨fun _ _ _ _ => rfl, fun _ _ _ _ => rfl⟩
theorem FT.tr {a b c : Mem} (h : FT a b) (k : FT b c) : FT a c := ⟨fun i h1 h2 h3 => (k.1 i h1 h2 h3).trans (h.1 i h1 h2 h3), fun i h1 h2 h3 => (k.2 i h1 h2 h3).trans (h.2 i h1 h2 h3)⟩
theorem FT.s {ω : Mem} {k : Nat} {v : Int32} (hk : k = 11 ∨ k = 12 ∨ k = 13) : FT ω (st ω 120 k v) := ⟨fun i h1 _ _ => st_nei (fun e => h1 e.symm), fun j h1 h2 h3 => st_ne (by omega)⟩
theorem FT.o {ω : Mem} {i k : Nat} {v : Int32} (hi : i = 126 ∨ i = 127) : FT ω (st ω i k v) := ⟨fun j _ h2 h3 => st_nei (by omega), fun j _ _ _ => by rw [st_nei (by omega)]⟩
theorem bb01 (x : Int32) : bb x = 0 ∨ bb x = 1 := by
  obtain ⟨j, hj, e⟩ := pk_andE x (m := 1) 1 (by decide)
  rcases (show j = 0 ∨ j = 1 by omega) with rfl | rfl
  · exact Or.inl e
  · exact Or.inr e
abbrev tyX (X : Nat → ClassId) : List (ClassId × FieldType) := [(X 0, .int), (X 1, .char), (X 2, .object RX0), (X 3, .object RX5)]
