theorem c_copyT {l_ : Launch} {sa : Nat → Nat} {D : va_G} {X : Nat → ClassId} {ad : Nat → Nat} {n j : Nat} {G : Nat → va_E} {g : Nat → Int32} (hj : j < n) (hG : G j = .inl (X 0, (4, .inl g))) : CT l_ yX7_copyRow wsX7_copyRow rm_X7_copyRow sa D (tyX X) n ad G [.ref (sa 2), .ref (ad j)] (none : Option Value) (va_up G j (.inl (X 0, (4, .inl (va_cpy (fun x => ([300, 5, 5, 300] : List Int32).getD x 0) g 0 0 4))))) := by
  refine ct_of [(0, .ref (sa 2)), (1, .ref (ad j))] (by decide +kernel) rfl rfl (Nat.le_of_ble_eq_true rfl) rfl ?_
  intro p_ e_ s_ m_ args_ below_ meth_ c_ C hret hlk hin
  have A259 : Cond.methodLink RX7 259 arraycopyName ∈ wsX7_copyRow := by decide +kernel
  have Aini : Cond.initialized "java/lang/System" ∈ wsX7_copyRow := by decide +kernel
  have Anat : Cond.native arraycopyName ∈ wsX7_copyRow := by decide +kernel
  have Asta : Cond.static arraycopyName ∈ wsX7_copyRow := by decide +kernel
  have M254a : Cond.methodLink RX7 254 Lib.Math.min.name ∈ wsX7_copyRow := by decide +kernel
  have Mini : Cond.initialized "java/lang/Math" ∈ wsX7_copyRow := by decide +kernel
  have Mminb : Cond.static Lib.Math.min.name ∈ wsX7_copyRow := by decide +kernel
  have Mminc : Cond.code Lib.Math.min.name Lib.Math.min.code 2 (some .int) ∈ wsX7_copyRow := by decide +kernel
  refine g_aload_n C dX7_copyRow_0 rfl 0 rfl ?_
  refine g_iconst (v := 0) C dX7_copyRow_1 (by decide) ?_
  refine g_aload_n C dX7_copyRow_2 rfl 1 rfl ?_
  refine g_iconst (v := 0) C dX7_copyRow_3 (by decide) ?_
  refine g_aload_n C dX7_copyRow_4 rfl 0 rfl ?_
  refine g_tlen (v := 4) C 2 rfl (by decide) dX7_copyRow_5 ?_
  refine g_aload_n C dX7_copyRow_6 rfl 1 rfl ?_
  refine g_alen (v := 4) C 0 hj hG rfl rfl dX7_copyRow_7 ?_
  refine g_mmin (v := 4) C M254a Mminb Mini Mminc (Nat.le_of_ble_eq_true rfl) (Nat.le_of_ble_eq_true rfl) (Nat.zero_le _) (Nat.zero_le _) dX7_copyRow_8 (by decide) ?_
  refine g_copyT (zs := 0) (zd := 0) (zz := 4) C 2 rfl 0 A259 Anat Asta Aini hj hG rfl (by decide) (by decide) (by decide) (by decide) (by decide) (by decide) (by decide) (by decide) (by decide) (by decide) (by decide) (Nat.le_of_ble_eq_true rfl) (Nat.le_of_ble_eq_true rfl) dX7_copyRow_11 ?_
  exact g_vret C hret hlk rfl rfl dX7_copyRow_14
/-- the first settings -/
def fs0 : Nat → Int32 := va_cpy (fun x => ([300, 5, 5, 300] : List Int32).getD x 0) (fun _ => 0) 0 0 4
abbrev rm_X4_init : Room := { frames := 2, cells := 1, slots := 4, locals := 40 }
theorem c_X4_init {l_ : Launch} {sa : Nat → Nat} {D : va_G} {X : Nat → ClassId} {ad : Nat → Nat} {hb B : Nat} {G : Nat → va_E} (had : ∀ i, ad i = hb + i) : CTN l_ yX4_init wsX4_init rm_X4_init sa D (tyX X) (B + 1) 1 4 ad (stW B G [.inr (4, [.null])]) [.ref (ad B)] none (stW B G [.inr (4, [.ref (ad (B + 1))]), .inl (X 0, (4, .inl fs0))]) := by
  refine ctn_of had [(0, .ref (ad B))] (by decide +kernel) rfl rfl (Nat.le_of_ble_eq_true rfl) rfl ?_
  intro p_ e_ s_ m_ args_ below_ meth_ c_ C Z hret hlk hin
  have O1 : Cond.methodLink RX4 1 Lib.objectInit ∈ wsX4_init := by decide +kernel
  have O2 : Cond.instanceMethod Lib.objectInit ∈ wsX4_init := by decide +kernel
  have O3 : Cond.code Lib.objectInit ⟨#[0xb1]⟩ 1 none ∈ wsX4_init := by decide +kernel
  have iX4 : ∀ w ∈ u_ws RX4 TX4 1, w ∈ wsX4_init := by decide +kernel
  have L13 : Cond.fieldLink RX4 13 (TX4 0).1 (TX4 0).2.1 (TX4 0).2.2.1 ∈ wsX4_init := by decide +kernel
  have S7 : Cond.fieldLink RX4 7 "FlameGuards$Settings" "FIRST" "[I" ∈ wsX4_init := by decide +kernel
  have AI : Cond.arrayClass .int ∈ wsX4_init := by decide +kernel
  have TC : Cond.static yX7_copyRow ∈ wsX4_init := by decide +kernel
  have IX7 : Cond.initialized RX7 ∈ wsX4_init := by decide +kernel
  refine g_aload_n C dX4_init_0 rfl 0 rfl ?_
  refine g_obj C O1 O2 O3 (Nat.le_of_ble_eq_true rfl) (Nat.le_of_ble_eq_true rfl) dX4_init_1 ?_
  refine g_aload_n C dX4_init_4 rfl 0 rfl ?_
  refine g_gets C 2 rfl S7 dX4_init_5 ?_
  refine g_tlen (v := 4) C 2 rfl (by decide) dX4_init_8 ?_
  refine g_newa (ty := .int) (a0 := (4, .inl (fun _ => 0))) (N' := 4) C Z rfl rfl AI 0 rfl (fun _ => rfl) (by decide) (by decide) (by decide) (Nat.le_of_ble_eq_true rfl) (Nat.le_of_ble_eq_true rfl) dX4_init_9 ?_
  refine gv_eqG (stW_push (c := [.inr (4, [.null])])) ?_
  refine g_putF C iX4 tyX4 tyX4_ok nmX4 (hin rfl) (show B < B + 1 + 1 by omega) stW_0 rfl 0 (by decide) L13 rfl rfl rfl rfl (Nat.le_of_ble_eq_true rfl) dX4_init_11 ?_
  refine gv_eqG (stW_up (k := 0) (Nat.le_of_ble_eq_true rfl)) ?_
  refine g_gets C 2 rfl S7 dX4_init_14 ?_
  refine g_aload_n C dX4_init_17 rfl 0 rfl ?_
  refine g_get (v := .ref (ad (B + 1))) C iX4 (show B < B + 1 + 1 by omega) stW_0 rfl 0 (by decide) L13 rfl dX4_init_18 ?_
  refine g_callSN (rest := []) (st1 := []) C (c_copyT (j := B + 1) (g := fun _ => 0) (show B + 1 < B + 1 + 1 by omega) stW_at) (va_cnB 2 C.hts gX4_init_X7_copyRow_n16 rfl rfl rfl (nw5 C.hN) (C.hts _ IX7) md_X7_copyRow.2 ⟨Nat.le_of_ble_eq_true rfl, Nat.le_of_ble_eq_true rfl⟩) TC rfl rfl rfl (Nat.le_of_ble_eq_true rfl) dX4_init_21 (Nat.le_of_ble_eq_true rfl) (Nat.le_of_ble_eq_true rfl) ?_
  refine gv_eqG (stW_up (k := 1) (Nat.le_of_ble_eq_true rfl)) ?_
  exact g_vretN C hret hlk rfl (fun _ _ => rfl) dX4_init_24
