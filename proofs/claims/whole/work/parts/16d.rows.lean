/-! the law's own rows: the script, its arguments, its ends; class and model one behind the other -/
def KX (s : State) (A : Nat → Prop) (b L : Nat) (xs : Nat → Int32) : Prop := va_X b L xs s s.heap ∧ b < s.heap.size ∧ ¬ A b
abbrev LA (s : State) : Nat → Prop := fun q => s.heap.size ≤ q
abbrev LV (p : Program) (l : Launch) (e : Env) (s : State) (m : MethodId) (b : Nat) (below : List Frame) (meth : Method) (c : Code) (D : va_G) (X : Nat → ClassId) (ad : Nat → Nat) (ω : Mem) (j pc : Nat) (st : List Value) : Prop := GV p l e room_1 s m #[Value.ref b] below meth c 128 1857 (lw_Z below #[Value.ref b] s) D (LA s) 4 128 ad (mk X ad ω) [(3, .int (nI j)), (2, .ref (ad 120)), (1, .ref (ad 0)), (0, .ref b)] pc st
abbrev KC (p : Program) (s : State) (m : MethodId) (b : Nat) (meth : Method) (c : Code) (sa : Nat → Nat) (D : va_G) (X : Nat → ClassId) : Prop := GC p room_1 s m #[Value.ref b] meth c code 4 wsL_law RL sa D (tyX X) (LA s)
theorem g_sld {p : Program} {l : Launch} {e : Env} {R : Room} {s : State} {m : MethodId} {args : Array Value} {below : List Frame} {meth : Method} {c : Code} {cells slots : Nat} {Q : State → Prop} {cc : ByteArray} {nL : Nat} {Ts : List Cond} {own : String} {sa : Nat → Nat} {D : va_G} {tys : List (ClassId × FieldType)} {A : Nat → Prop} {pc n : Nat} {ad : Nat → Nat} {G : Nat → va_E} {lv : List (Nat × Value)} {rest : List Value} (C : GC p R s m args meth c cc nL Ts own sa D tys A) {b L : Nat} {xs : Nat → Int32} (K : KX s A b L xs) {i x : Int32} (hin : vp_in i L) (hx : xs i.toNatClampNeg = x) (hdg : decode cc pc = .ok (.iaload, 1)) (kk : GV p l e R s m args below meth c cells slots Q D A nL n ad G lv (pc + 1) (.int x :: rest)) : GV p l e R s m args below meth c cells slots Q D A nL n ad G lv pc (.int i :: .ref b :: rest) := by
  intro H locs ls hP hD hS hl
  subst hx
  exact va_sld C.hx C.hb K.1 K.2.1 K.2.2 hS hin hdg (kk H locs ls hP hD hS hl)
theorem g_slen {p : Program} {l : Launch} {e : Env} {R : Room} {s : State} {m : MethodId} {args : Array Value} {below : List Frame} {meth : Method} {c : Code} {cells slots : Nat} {Q : State → Prop} {cc : ByteArray} {nL : Nat} {Ts : List Cond} {own : String} {sa : Nat → Nat} {D : va_G} {tys : List (ClassId × FieldType)} {A : Nat → Prop} {pc n : Nat} {ad : Nat → Nat} {G : Nat → va_E} {lv : List (Nat × Value)} {rest : List Value} (C : GC p R s m args meth c cc nL Ts own sa D tys A) {b L : Nat} {xs : Nat → Int32} (K : KX s A b L xs) (hdg : decode cc pc = .ok (.arraylength, 1)) (kk : GV p l e R s m args below meth c cells slots Q D A nL n ad G lv (pc + 1) (.int (nI L) :: rest)) : GV p l e R s m args below meth c cells slots Q D A nL n ad G lv pc (.ref b :: rest) := by
  intro H locs ls hP hD hS hl
  exact va_slen C.hx C.hb K.1 K.2.1 K.2.2 hS hdg (kk H locs ls hP hD hS hl)
section KL
variable {p : Program} {l : Launch} {e : Env} {s : State} {m : MethodId} {below : List Frame} {meth : Method} {c : Code} {sa : Nat → Nat} {D : va_G} {X : Nat → ClassId} {ad : Nat → Nat} {b L : Nat} {xs : Nat → Int32} {ω : Mem} {j pc : Nat} {rest : List Value}
/-- script[i + k] -/
theorem k_arg (C : KC p s m b meth c sa D X) (K : KX s (LA s) b L xs) {k : Nat} {kz : Int} {x : Int32} (hk : Int32.ofInt kz = nI k) (hj : j + k < L) (hL : L ≤ 1536) (hx : xs (j + k) = x) (d0 : decode code pc = .ok (.aload_n 0, 1)) (d1 : decode code (pc + 1) = .ok (.iload_n 3, 1)) (d2 : decode code (pc + 2) = .ok (.iconst kz, 1)) (d3 : decode code (pc + 3) = .ok (.iadd, 1)) (d4 : decode code (pc + 4) = .ok (.iaload, 1)) (kk : LV p l e s m b below meth c D X ad ω j (pc + 5) (.int x :: rest)) : LV p l e s m b below meth c D X ad ω j pc rest := by
  refine g_aload_n C d0 rfl 3 rfl ?_
  refine g_iload_n C d1 rfl 0 rfl ?_
  refine g_iconst (v := nI k) C d2 hk ?_
  refine g_iadd (v := nI (j + k)) C d3 (nI_add j k) ?_
  exact g_sld C K (vp_in_nI hj (by omega)) (by rw [nI_clamp (by omega)]; exact hx) d4 kk
/-- x != 0 -/
def boo (x : Int32) : Int32 := if x = 0 then 0 else 1
theorem boo_bb (x : Int32) : bb (boo x) = boo x := by
  unfold boo
  by_cases h : x = 0
  · rw [if_pos h]; decide
  · rw [if_neg h]; decide
theorem k_boo (C : KC p s m b meth c sa D X) {y : Int32} (d0 : decode code pc = .ok (.ifCond .eq 7, 3)) (d1 : decode code (pc + 3) = .ok (.iconst 1, 1)) (d2 : decode code (pc + 4) = .ok (.goto 4, 3)) (d3 : decode code (pc + 7) = .ok (.iconst 0, 1)) (kk : LV p l e s m b below meth c D X ad ω j (pc + 8) (.int (boo y) :: rest)) : LV p l e s m b below meth c D X ad ω j pc (.int y :: rest) := by
  refine g_if_eq (tgt := pc + 7) C d0 (by omega) (fun q => ?_) (fun q => ?_)
  · refine g_iconst (v := boo y) C d3 (by unfold boo; rw [if_pos q]; decide) ?_
    exact kk
  · refine g_iconst (v := boo y) C d1 (by unfold boo; rw [if_neg q]; decide) ?_
    exact g_goto (tgt := pc + 8) C d2 (by omega) kk
/-- the answers are alike: on -/
theorem k_cmp (C : KC p s m b meth c sa D X) {r r' : Int32} {off : Int} (hr : r = r') (d : decode code pc = .ok (.if_icmp .eq off, 3)) (ht : (pc : Int) + off = ((770 : Nat) : Int)) (kk : LV p l e s m b below meth c D X ad ω (j + 3) 18 []) : LV p l e s m b below meth c D X ad ω j pc [.int r', .int r] := by
  refine g_icmp_eq C d ht (fun _ => ?_) (fun q => absurd hr q)
  refine g_iinc (k := 0) (v := nI (j + 3)) C dL_law_770 rfl (by rw [show Int32.ofInt 3 = nI 3 by decide]; exact nI_add j 3) (by decide) rfl ?_
  exact g_goto C dL_law_773 (by decide) kk
theorem k_skip (C : KC p s m b meth c sa D X) (kk : LV p l e s m b below meth c D X ad ω (j + 3) 18 []) : LV p l e s m b below meth c D X ad ω j 770 [] := by
  refine g_iinc (k := 0) (v := nI (j + 3)) C dL_law_770 rfl (by rw [show Int32.ofInt 3 = nI 3 by decide]; exact nI_add j 3) (by decide) rfl ?_
  exact g_goto C dL_law_773 (by decide) kk
theorem g_lend (C : KC p s m b meth c sa D X) (hr : meth.sig.returnType = ret) (hlk : meth.locks = false) (hdg : decode code pc = .ok (.ireturn, 1)) : LV p l e s m b below meth c D X ad ω j pc [.int 1] := by
  intro H locs ls hP hD hS hl
  refine va_forget (fun q hq => hS.2.2 q hq) ?_
  exact W.widen (Nat.le_of_ble_eq_true rfl) (Nat.le_of_ble_eq_true rfl) (lw_ret C.hx C.hb hr hlk hdg)
end KL
theorem opB {ω μ : Mem} {r : Int32} (h : LR ω μ) : OPP ω μ (r, ω) (r, st μ 120 0 0) := OPP.th (OPP.same h.th)
/-- the class first, then the model over what the class has left -/
theorem op2 {ω : Mem} {a : Int32 × Mem} {b : Mem → Int32 × Mem} (h : LR ω ω) (o : ∀ μ, LR ω μ → OPP ω μ a (b μ)) : LR ω a.2 ∧ a.1 = (b a.2).1 ∧ LR (b a.2).2 (b a.2).2 := by
  obtain ⟨-, -, f1, -⟩ := o ω h
  have h1 : LR ω a.2 := h.ml f1
  obtain ⟨e, g, -, f2⟩ := o a.2 h1
  exact ⟨h1, e, g.cl f2⟩
theorem k_burn {x : Int32} (h : ¬ (x < 0 ∨ 4 ≤ x)) : ∃ k, k < 4 ∧ x = nI k := by
  have h3 : (3 : Int32).toInt = (3 : Nat) := by decide
  have h4 : (4 : Int32).toInt = 4 := by decide
  obtain ⟨k, hk, e⟩ := nI_of2 (x := x) (M := 3) h3 (fun q => h (Or.inl q)) (by
    rw [Int32.le_iff_toInt_le]
    have : ¬ (4 : Int32) ≤ x := fun q => h (Or.inr q)
    rw [Int32.le_iff_toInt_le] at this
    omega)
  exact ⟨k, by omega, e⟩
theorem k_tick {x : Int32} (h : ¬ (x < 1 ∨ 200 < x)) : ∃ k, (1 ≤ k ∧ k ≤ 200) ∧ x = nI k := by
  have h3 : (200 : Int32).toInt = (200 : Nat) := by decide
  have h1 : (1 : Int32).toInt = 1 := by decide
  have h0 : (0 : Int32).toInt = 0 := by decide
  have g1 : ¬ x < 1 := fun q => h (Or.inl q)
  have g2 : ¬ 200 < x := fun q => h (Or.inr q)
  rw [Int32.lt_iff_toInt_lt] at g1 g2
  obtain ⟨k, hk, e⟩ := nI_of2 (x := x) (M := 200) h3 (fun q => by rw [Int32.lt_iff_toInt_lt] at q; omega) (by rw [Int32.le_iff_toInt_le]; omega)
  refine ⟨k, ⟨?_, hk⟩, e⟩
  rw [e, nI_toInt (by omega)] at g1
  omega
theorem k_and (z : Int32) : ∃ k, k < 32 ∧ z &&& 31 = nI k := by
  refine ⟨z.toBitVec.toNat % 32, Nat.mod_lt _ (by decide), ?_⟩
  apply Int32.toBitVec_inj.mp
  apply BitVec.eq_of_toNat_eq
  rw [pk_tn (by omega), Int32.toBitVec_and, BitVec.toNat_and]
  exact Nat.and_two_pow_sub_one_eq_mod _ 5
