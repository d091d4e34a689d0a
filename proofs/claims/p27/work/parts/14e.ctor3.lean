abbrev rm_X3_init : Room := { frames := 1, cells := 2, slots := 24, locals := 13 }
theorem c_X3_init {l_ : Launch} {sa : Nat → Nat} {D : va_G} {X : Nat → ClassId} {ad : Nat → Nat} {hb B : Nat} {G : Nat → va_E} (had : ∀ i, ad i = hb + i) : CTN l_ yX3_init wsX3_init rm_X3_init sa D (tyX X) (B + 1) 2 24 ad (stW B G [.inr (3, [.null, .null, .int 0])]) [.ref (ad B)] none (stW B G [.inr (3, [.ref (ad (B + 1)), .ref (ad (B + 2)), .int 0]), .inl (X 0, (12, .inl (fun _ => 0))), .inl (X 0, (12, .inl (fun _ => 0)))]) := by
  refine ctn_of had [(0, .ref (ad B))] (by decide +kernel) rfl rfl (Nat.le_of_ble_eq_true rfl) rfl ?_
  intro p_ e_ s_ m_ args_ below_ meth_ c_ C Z hret hlk hin
  have O1 : Cond.methodLink RX3 1 Lib.objectInit ∈ wsX3_init := by decide +kernel
  have O2 : Cond.instanceMethod Lib.objectInit ∈ wsX3_init := by decide +kernel
  have O3 : Cond.code Lib.objectInit ⟨#[0xb1]⟩ 1 none ∈ wsX3_init := by decide +kernel
  have iX : ∀ w ∈ u_ws RX3 TX3 3, w ∈ wsX3_init := by decide +kernel
  have Aint : Cond.arrayClass .int ∈ wsX3_init := by decide +kernel
  have L9 : Cond.fieldLink RX3 9 (TX3 0).1 (TX3 0).2.1 (TX3 0).2.2.1 ∈ wsX3_init := by decide +kernel
  have L13 : Cond.fieldLink RX3 13 (TX3 1).1 (TX3 1).2.1 (TX3 1).2.2.1 ∈ wsX3_init := by decide +kernel
  have L16 : Cond.fieldLink RX3 16 (TX3 2).1 (TX3 2).2.1 (TX3 2).2.2.1 ∈ wsX3_init := by decide +kernel
  refine g_aload_n C dX3_init_0 rfl 0 rfl ?_
  refine g_obj C O1 O2 O3 (Nat.le_of_ble_eq_true rfl) (Nat.le_of_ble_eq_true rfl) dX3_init_1 ?_
  refine g_aload_n C dX3_init_4 rfl 0 rfl ?_
  refine g_bipush (v := 12) C dX3_init_5 (by decide) ?_
  refine g_newa (ty := .int) (a0 := (12, .inl (fun _ => 0))) (N' := 12) C Z (by omega) rfl Aint 0 rfl (fun _ => rfl) (by decide) (by decide) (by decide) (Nat.le_of_ble_eq_true rfl) (Nat.le_of_ble_eq_true rfl) dX3_init_7 ?_
  refine gv_eqG (G' := stW B G [.inr (3, [.null, .null, .int 0]), .inl (X 0, (12, .inl (fun _ => 0)))]) (stW_push (c := [.inr (3, [.null, .null, .int 0])])) ?_
  refine g_putF C iX tyX3 tyX3_ok nmX3 (hin rfl) (show B < B + 1 + 1 by omega) stW_0 rfl 0 (by decide) L9 rfl rfl rfl rfl (Nat.le_of_ble_eq_true rfl) dX3_init_9 ?_
  refine gv_eqG (G' := stW B G [.inr (3, [.ref (ad (B + 1)), .null, .int 0]), .inl (X 0, (12, .inl (fun _ => 0)))]) (stW_up (k := 0) (Nat.le_of_ble_eq_true rfl)) ?_
  refine g_aload_n C dX3_init_12 rfl 0 rfl ?_
  refine g_bipush (v := 12) C dX3_init_13 (by decide) ?_
  refine g_newa (ty := .int) (a0 := (12, .inl (fun _ => 0))) (N' := 12) C Z (by omega) rfl Aint 0 rfl (fun _ => rfl) (by decide) (by decide) (by decide) (Nat.le_of_ble_eq_true rfl) (Nat.le_of_ble_eq_true rfl) dX3_init_15 ?_
  refine gv_eqG (G' := stW B G [.inr (3, [.ref (ad (B + 1)), .null, .int 0]), .inl (X 0, (12, .inl (fun _ => 0))), .inl (X 0, (12, .inl (fun _ => 0)))]) (stW_push (c := [.inr (3, [.ref (ad (B + 1)), .null, .int 0]), .inl (X 0, (12, .inl (fun _ => 0)))])) ?_
  refine g_putF C iX tyX3 tyX3_ok nmX3 (hin rfl) (show B < B + 1 + 2 by omega) stW_0 rfl 1 (by decide) L13 rfl rfl rfl rfl (Nat.le_of_ble_eq_true rfl) dX3_init_17 ?_
  refine gv_eqG (G' := stW B G [.inr (3, [.ref (ad (B + 1)), .ref (ad (B + 2)), .int 0]), .inl (X 0, (12, .inl (fun _ => 0))), .inl (X 0, (12, .inl (fun _ => 0)))]) (stW_up (k := 0) (Nat.le_of_ble_eq_true rfl)) ?_
  refine g_aload_n C dX3_init_20 rfl 0 rfl ?_
  refine g_iconst (v := 0) C dX3_init_21 (by decide) ?_
  refine g_put C iX tyX3 tyX3_ok nmX3 (show B < B + 1 + 2 by omega) stW_0 rfl 2 (by decide) L16 rfl rfl rfl (Nat.le_of_ble_eq_true rfl) dX3_init_22 ?_
  refine gv_eqG (G' := stW B G [.inr (3, [.ref (ad (B + 1)), .ref (ad (B + 2)), .int 0]), .inl (X 0, (12, .inl (fun _ => 0))), .inl (X 0, (12, .inl (fun _ => 0)))]) (stW_up (k := 0) (Nat.le_of_ble_eq_true rfl)) ?_
  exact g_vretN C hret hlk rfl (fun _ _ => rfl) dX3_init_25
abbrev rm_X2_init : Room := { frames := 1, cells := 4, slots := 34, locals := 13 }
theorem c_X2_init {l_ : Launch} {sa : Nat → Nat} {D : va_G} {X : Nat → ClassId} {ad : Nat → Nat} {hb B : Nat} {G : Nat → va_E} (had : ∀ i, ad i = hb + i) : CTN l_ yX2_init wsX2_init rm_X2_init sa D (tyX X) (B + 1) 4 34 ad (stW B G [.inr (2, [.null, .null, .null, .null, .int 0])]) [.ref (ad B)] none (stW B G [.inr (2, [.ref (ad (B + 1)), .ref (ad (B + 2)), .ref (ad (B + 3)), .ref (ad (B + 4)), .int 0]), .inl (X 0, (10, .inl (fun _ => 0))), .inl (X 0, (10, .inl (fun _ => 0))), .inl (X 0, (10, .inl (fun _ => 0))), .inl (X 0, (4, .inl (fun _ => 0)))]) := by
  refine ctn_of had [(0, .ref (ad B))] (by decide +kernel) rfl rfl (Nat.le_of_ble_eq_true rfl) rfl ?_
  intro p_ e_ s_ m_ args_ below_ meth_ c_ C Z hret hlk hin
  have O1 : Cond.methodLink RX2 1 Lib.objectInit ∈ wsX2_init := by decide +kernel
  have O2 : Cond.instanceMethod Lib.objectInit ∈ wsX2_init := by decide +kernel
  have O3 : Cond.code Lib.objectInit ⟨#[0xb1]⟩ 1 none ∈ wsX2_init := by decide +kernel
  have iX : ∀ w ∈ u_ws RX2 TX2 5, w ∈ wsX2_init := by decide +kernel
  have Aint : Cond.arrayClass .int ∈ wsX2_init := by decide +kernel
  have L9 : Cond.fieldLink RX2 9 (TX2 0).1 (TX2 0).2.1 (TX2 0).2.2.1 ∈ wsX2_init := by decide +kernel
  have L13 : Cond.fieldLink RX2 13 (TX2 1).1 (TX2 1).2.1 (TX2 1).2.2.1 ∈ wsX2_init := by decide +kernel
  have L16 : Cond.fieldLink RX2 16 (TX2 2).1 (TX2 2).2.1 (TX2 2).2.2.1 ∈ wsX2_init := by decide +kernel
  have L19 : Cond.fieldLink RX2 19 (TX2 3).1 (TX2 3).2.1 (TX2 3).2.2.1 ∈ wsX2_init := by decide +kernel
  have L22 : Cond.fieldLink RX2 22 (TX2 4).1 (TX2 4).2.1 (TX2 4).2.2.1 ∈ wsX2_init := by decide +kernel
  refine g_aload_n C dX2_init_0 rfl 0 rfl ?_
  refine g_obj C O1 O2 O3 (Nat.le_of_ble_eq_true rfl) (Nat.le_of_ble_eq_true rfl) dX2_init_1 ?_
  refine g_aload_n C dX2_init_4 rfl 0 rfl ?_
  refine g_bipush (v := 10) C dX2_init_5 (by decide) ?_
  refine g_newa (ty := .int) (a0 := (10, .inl (fun _ => 0))) (N' := 10) C Z (by omega) rfl Aint 0 rfl (fun _ => rfl) (by decide) (by decide) (by decide) (Nat.le_of_ble_eq_true rfl) (Nat.le_of_ble_eq_true rfl) dX2_init_7 ?_
  refine gv_eqG (G' := stW B G [.inr (2, [.null, .null, .null, .null, .int 0]), .inl (X 0, (10, .inl (fun _ => 0)))]) (stW_push (c := [.inr (2, [.null, .null, .null, .null, .int 0])])) ?_
  refine g_putF C iX tyX2 tyX2_ok nmX2 (hin rfl) (show B < B + 1 + 1 by omega) stW_0 rfl 0 (by decide) L9 rfl rfl rfl rfl (Nat.le_of_ble_eq_true rfl) dX2_init_9 ?_
  refine gv_eqG (G' := stW B G [.inr (2, [.ref (ad (B + 1)), .null, .null, .null, .int 0]), .inl (X 0, (10, .inl (fun _ => 0)))]) (stW_up (k := 0) (Nat.le_of_ble_eq_true rfl)) ?_
  refine g_aload_n C dX2_init_12 rfl 0 rfl ?_
  refine g_bipush (v := 10) C dX2_init_13 (by decide) ?_
  refine g_newa (ty := .int) (a0 := (10, .inl (fun _ => 0))) (N' := 10) C Z (by omega) rfl Aint 0 rfl (fun _ => rfl) (by decide) (by decide) (by decide) (Nat.le_of_ble_eq_true rfl) (Nat.le_of_ble_eq_true rfl) dX2_init_15 ?_
  refine gv_eqG (G' := stW B G [.inr (2, [.ref (ad (B + 1)), .null, .null, .null, .int 0]), .inl (X 0, (10, .inl (fun _ => 0))), .inl (X 0, (10, .inl (fun _ => 0)))]) (stW_push (c := [.inr (2, [.ref (ad (B + 1)), .null, .null, .null, .int 0]), .inl (X 0, (10, .inl (fun _ => 0)))])) ?_
  refine g_putF C iX tyX2 tyX2_ok nmX2 (hin rfl) (show B < B + 1 + 2 by omega) stW_0 rfl 1 (by decide) L13 rfl rfl rfl rfl (Nat.le_of_ble_eq_true rfl) dX2_init_17 ?_
  refine gv_eqG (G' := stW B G [.inr (2, [.ref (ad (B + 1)), .ref (ad (B + 2)), .null, .null, .int 0]), .inl (X 0, (10, .inl (fun _ => 0))), .inl (X 0, (10, .inl (fun _ => 0)))]) (stW_up (k := 0) (Nat.le_of_ble_eq_true rfl)) ?_
  refine g_aload_n C dX2_init_20 rfl 0 rfl ?_
  refine g_bipush (v := 10) C dX2_init_21 (by decide) ?_
  refine g_newa (ty := .int) (a0 := (10, .inl (fun _ => 0))) (N' := 10) C Z (by omega) rfl Aint 0 rfl (fun _ => rfl) (by decide) (by decide) (by decide) (Nat.le_of_ble_eq_true rfl) (Nat.le_of_ble_eq_true rfl) dX2_init_23 ?_
  refine gv_eqG (G' := stW B G [.inr (2, [.ref (ad (B + 1)), .ref (ad (B + 2)), .null, .null, .int 0]), .inl (X 0, (10, .inl (fun _ => 0))), .inl (X 0, (10, .inl (fun _ => 0))), .inl (X 0, (10, .inl (fun _ => 0)))]) (stW_push (c := [.inr (2, [.ref (ad (B + 1)), .ref (ad (B + 2)), .null, .null, .int 0]), .inl (X 0, (10, .inl (fun _ => 0))), .inl (X 0, (10, .inl (fun _ => 0)))])) ?_
  refine g_putF C iX tyX2 tyX2_ok nmX2 (hin rfl) (show B < B + 1 + 3 by omega) stW_0 rfl 2 (by decide) L16 rfl rfl rfl rfl (Nat.le_of_ble_eq_true rfl) dX2_init_25 ?_
  refine gv_eqG (G' := stW B G [.inr (2, [.ref (ad (B + 1)), .ref (ad (B + 2)), .ref (ad (B + 3)), .null, .int 0]), .inl (X 0, (10, .inl (fun _ => 0))), .inl (X 0, (10, .inl (fun _ => 0))), .inl (X 0, (10, .inl (fun _ => 0)))]) (stW_up (k := 0) (Nat.le_of_ble_eq_true rfl)) ?_
  refine g_aload_n C dX2_init_28 rfl 0 rfl ?_
  refine g_iconst (v := 4) C dX2_init_29 (by decide) ?_
  refine g_newa (ty := .int) (a0 := (4, .inl (fun _ => 0))) (N' := 4) C Z (by omega) rfl Aint 0 rfl (fun _ => rfl) (by decide) (by decide) (by decide) (Nat.le_of_ble_eq_true rfl) (Nat.le_of_ble_eq_true rfl) dX2_init_30 ?_
  refine gv_eqG (G' := stW B G [.inr (2, [.ref (ad (B + 1)), .ref (ad (B + 2)), .ref (ad (B + 3)), .null, .int 0]), .inl (X 0, (10, .inl (fun _ => 0))), .inl (X 0, (10, .inl (fun _ => 0))), .inl (X 0, (10, .inl (fun _ => 0))), .inl (X 0, (4, .inl (fun _ => 0)))]) (stW_push (c := [.inr (2, [.ref (ad (B + 1)), .ref (ad (B + 2)), .ref (ad (B + 3)), .null, .int 0]), .inl (X 0, (10, .inl (fun _ => 0))), .inl (X 0, (10, .inl (fun _ => 0))), .inl (X 0, (10, .inl (fun _ => 0)))])) ?_
  refine g_putF C iX tyX2 tyX2_ok nmX2 (hin rfl) (show B < B + 1 + 4 by omega) stW_0 rfl 3 (by decide) L19 rfl rfl rfl rfl (Nat.le_of_ble_eq_true rfl) dX2_init_32 ?_
  refine gv_eqG (G' := stW B G [.inr (2, [.ref (ad (B + 1)), .ref (ad (B + 2)), .ref (ad (B + 3)), .ref (ad (B + 4)), .int 0]), .inl (X 0, (10, .inl (fun _ => 0))), .inl (X 0, (10, .inl (fun _ => 0))), .inl (X 0, (10, .inl (fun _ => 0))), .inl (X 0, (4, .inl (fun _ => 0)))]) (stW_up (k := 0) (Nat.le_of_ble_eq_true rfl)) ?_
  refine g_aload_n C dX2_init_35 rfl 0 rfl ?_
  refine g_iconst (v := 0) C dX2_init_36 (by decide) ?_
  refine g_put C iX tyX2 tyX2_ok nmX2 (show B < B + 1 + 4 by omega) stW_0 rfl 4 (by decide) L22 rfl rfl rfl (Nat.le_of_ble_eq_true rfl) dX2_init_37 ?_
  refine gv_eqG (G' := stW B G [.inr (2, [.ref (ad (B + 1)), .ref (ad (B + 2)), .ref (ad (B + 3)), .ref (ad (B + 4)), .int 0]), .inl (X 0, (10, .inl (fun _ => 0))), .inl (X 0, (10, .inl (fun _ => 0))), .inl (X 0, (10, .inl (fun _ => 0))), .inl (X 0, (4, .inl (fun _ => 0)))]) (stW_up (k := 0) (Nat.le_of_ble_eq_true rfl)) ?_
  exact g_vretN C hret hlk rfl (fun _ _ => rfl) dX2_init_40
abbrev rm_X6_init : Room := { frames := 1, cells := 1, slots := 60, locals := 13 }
theorem c_X6_init {l_ : Launch} {sa : Nat → Nat} {D : va_G} {X : Nat → ClassId} {ad : Nat → Nat} {hb B : Nat} {G : Nat → va_E} (had : ∀ i, ad i = hb + i) : CTN l_ yX6_init wsX6_init rm_X6_init sa D (tyX X) (B + 1) 1 60 ad (stW B G [.inr (6, [.null, .int 0])]) [.ref (ad B)] none (stW B G [.inr (6, [.ref (ad (B + 1)), .int 0]), .inl (X 1, (60, .inl (fun _ => 0)))]) := by
  refine ctn_of had [(0, .ref (ad B))] (by decide +kernel) rfl rfl (Nat.le_of_ble_eq_true rfl) rfl ?_
  intro p_ e_ s_ m_ args_ below_ meth_ c_ C Z hret hlk hin
  have O1 : Cond.methodLink RX6 1 Lib.objectInit ∈ wsX6_init := by decide +kernel
  have O2 : Cond.instanceMethod Lib.objectInit ∈ wsX6_init := by decide +kernel
  have O3 : Cond.code Lib.objectInit ⟨#[0xb1]⟩ 1 none ∈ wsX6_init := by decide +kernel
  have iX : ∀ w ∈ u_ws RX6 TX6 2, w ∈ wsX6_init := by decide +kernel
  have Achar : Cond.arrayClass .char ∈ wsX6_init := by decide +kernel
  have L9 : Cond.fieldLink RX6 9 (TX6 0).1 (TX6 0).2.1 (TX6 0).2.2.1 ∈ wsX6_init := by decide +kernel
  have L13 : Cond.fieldLink RX6 13 (TX6 1).1 (TX6 1).2.1 (TX6 1).2.2.1 ∈ wsX6_init := by decide +kernel
  refine g_aload_n C dX6_init_0 rfl 0 rfl ?_
  refine g_obj C O1 O2 O3 (Nat.le_of_ble_eq_true rfl) (Nat.le_of_ble_eq_true rfl) dX6_init_1 ?_
  refine g_aload_n C dX6_init_4 rfl 0 rfl ?_
  refine g_bipush (v := 60) C dX6_init_5 (by decide) ?_
  refine g_newa (ty := .char) (a0 := (60, .inl (fun _ => 0))) (N' := 60) C Z (by omega) rfl Achar 1 rfl (fun _ => rfl) (by decide) (by decide) (by decide) (Nat.le_of_ble_eq_true rfl) (Nat.le_of_ble_eq_true rfl) dX6_init_7 ?_
  refine gv_eqG (G' := stW B G [.inr (6, [.null, .int 0]), .inl (X 1, (60, .inl (fun _ => 0)))]) (stW_push (c := [.inr (6, [.null, .int 0])])) ?_
  refine g_putF C iX tyX6 tyX6_ok nmX6 (hin rfl) (show B < B + 1 + 1 by omega) stW_0 rfl 0 (by decide) L9 rfl rfl rfl rfl (Nat.le_of_ble_eq_true rfl) dX6_init_9 ?_
  refine gv_eqG (G' := stW B G [.inr (6, [.ref (ad (B + 1)), .int 0]), .inl (X 1, (60, .inl (fun _ => 0)))]) (stW_up (k := 0) (Nat.le_of_ble_eq_true rfl)) ?_
  refine g_aload_n C dX6_init_12 rfl 0 rfl ?_
  refine g_iconst (v := 0) C dX6_init_13 (by decide) ?_
  refine g_put C iX tyX6 tyX6_ok nmX6 (show B < B + 1 + 1 by omega) stW_0 rfl 1 (by decide) L13 rfl rfl rfl (Nat.le_of_ble_eq_true rfl) dX6_init_14 ?_
  refine gv_eqG (G' := stW B G [.inr (6, [.ref (ad (B + 1)), .int 0]), .inl (X 1, (60, .inl (fun _ => 0)))]) (stW_up (k := 0) (Nat.le_of_ble_eq_true rfl)) ?_
  exact g_vretN C hret hlk rfl (fun _ _ => rfl) dX6_init_17
