/-- the model's first state -/
def ms0 : Nat → Int32 := upd (upd (upd (upd (upd (upd (fun _ => 0) 0 300) 1 5) 2 5) 3 300) 88 1) 98 2
def moC (X : Nat → ClassId) (ad : Nat → Nat) (B : Nat) : List va_E := [.inr (8, [.int 0, .ref (ad (B + 1)), .ref (ad (B + 2)), .ref (ad (B + 3)), .int 0, .ref (ad (B + 4)), .int 0, .ref (ad (B + 5)), .int 0, .ref (ad (B + 6)), .ref (ad (B + 7)), .int 0, .int 0, .int 0]), .inl (X 0, (108, .inl ms0)), .inl (X 0, (108, .inl (fun _ => 0))), .inl (X 0, (432, .inl (fun _ => 0))), .inl (X 0, (108, .inl (fun _ => 0))), .inl (X 0, (60, .inl (fun _ => 0))), .inl (X 0, (32, .inl (fun _ => 0))), .inl (X 0, (32, .inl (fun _ => 0)))]
abbrev rm_X8_init : Room := { frames := 1, cells := 7, slots := 880, locals := 13 }
theorem c_X8_init {l_ : Launch} {sa : Nat → Nat} {D : va_G} {X : Nat → ClassId} {ad : Nat → Nat} {hb B : Nat} {G : Nat → va_E} (had : ∀ i, ad i = hb + i) : CTN l_ yX8_init wsX8_init rm_X8_init sa D (tyX X) (B + 1) 7 880 ad (stW B G [.inr (8, [.int 0, .null, .null, .null, .int 0, .null, .int 0, .null, .int 0, .null, .null, .int 0, .int 0, .int 0])]) [.ref (ad B)] none (stW B G (moC X ad B)) := by
  refine ctn_of had [(0, .ref (ad B))] (by decide +kernel) rfl rfl (Nat.le_of_ble_eq_true rfl) rfl ?_
  intro p_ e_ s_ m_ args_ below_ meth_ c_ C Z hret hlk hin
  have O1 : Cond.methodLink RX8 1 Lib.objectInit ∈ wsX8_init := by decide +kernel
  have O2 : Cond.instanceMethod Lib.objectInit ∈ wsX8_init := by decide +kernel
  have O3 : Cond.code Lib.objectInit ⟨#[0xb1]⟩ 1 none ∈ wsX8_init := by decide +kernel
  have iX : ∀ w ∈ u_ws RX8 TX8 14, w ∈ wsX8_init := by decide +kernel
  have AI : Cond.arrayClass .int ∈ wsX8_init := by decide +kernel
  have L7 : Cond.fieldLink RX8 7 (TX8 1).1 (TX8 1).2.1 (TX8 1).2.2.1 ∈ wsX8_init := by decide +kernel
  have L13 : Cond.fieldLink RX8 13 (TX8 2).1 (TX8 2).2.1 (TX8 2).2.2.1 ∈ wsX8_init := by decide +kernel
  have L16 : Cond.fieldLink RX8 16 (TX8 3).1 (TX8 3).2.1 (TX8 3).2.2.1 ∈ wsX8_init := by decide +kernel
  have L19 : Cond.fieldLink RX8 19 (TX8 5).1 (TX8 5).2.1 (TX8 5).2.2.1 ∈ wsX8_init := by decide +kernel
  have L22 : Cond.fieldLink RX8 22 (TX8 7).1 (TX8 7).2.1 (TX8 7).2.2.1 ∈ wsX8_init := by decide +kernel
  have L25 : Cond.fieldLink RX8 25 (TX8 9).1 (TX8 9).2.1 (TX8 9).2.2.1 ∈ wsX8_init := by decide +kernel
  have L28 : Cond.fieldLink RX8 28 (TX8 10).1 (TX8 10).2.1 (TX8 10).2.2.1 ∈ wsX8_init := by decide +kernel
  have L31 : Cond.fieldLink RX8 31 (TX8 0).1 (TX8 0).2.1 (TX8 0).2.2.1 ∈ wsX8_init := by decide +kernel
  refine g_aload_n C dX8_init_0 rfl 0 rfl ?_
  refine g_obj C O1 O2 O3 (Nat.le_of_ble_eq_true rfl) (Nat.le_of_ble_eq_true rfl) dX8_init_1 ?_
  refine g_aload_n C dX8_init_4 rfl 0 rfl ?_
  refine g_bipush (v := 108) C dX8_init_5 (by decide) ?_
  refine g_newa (ty := .int) (a0 := (108, .inl (fun _ => 0))) (N' := 108) C Z (by omega) rfl AI 0 rfl (fun _ => rfl) (by decide) (by decide) (by decide) (Nat.le_of_ble_eq_true rfl) (Nat.le_of_ble_eq_true rfl) dX8_init_7 ?_
  refine gv_eqG (G' := stW B G [.inr (8, [.int 0, .null, .null, .null, .int 0, .null, .int 0, .null, .int 0, .null, .null, .int 0, .int 0, .int 0]), .inl (X 0, (108, .inl (fun _ => 0)))]) (stW_push (c := [.inr (8, [.int 0, .null, .null, .null, .int 0, .null, .int 0, .null, .int 0, .null, .null, .int 0, .int 0, .int 0])])) ?_
  refine g_putF C iX tyX8 tyX8_ok nmX8 (hin rfl) (show B < B + 2 by omega) stW_0 rfl 1 (by decide) L7 rfl rfl rfl rfl (Nat.le_of_ble_eq_true rfl) dX8_init_9 ?_
  refine gv_eqG (G' := stW B G [.inr (8, [.int 0, .ref (ad (B + 1)), .null, .null, .int 0, .null, .int 0, .null, .int 0, .null, .null, .int 0, .int 0, .int 0]), .inl (X 0, (108, .inl (fun _ => 0)))]) (stW_up (k := 0) (Nat.le_of_ble_eq_true rfl)) ?_
  refine g_aload_n C dX8_init_12 rfl 0 rfl ?_
  refine g_bipush (v := 108) C dX8_init_13 (by decide) ?_
  refine g_newa (ty := .int) (a0 := (108, .inl (fun _ => 0))) (N' := 108) C Z (by omega) rfl AI 0 rfl (fun _ => rfl) (by decide) (by decide) (by decide) (Nat.le_of_ble_eq_true rfl) (Nat.le_of_ble_eq_true rfl) dX8_init_15 ?_
  refine gv_eqG (G' := stW B G [.inr (8, [.int 0, .ref (ad (B + 1)), .null, .null, .int 0, .null, .int 0, .null, .int 0, .null, .null, .int 0, .int 0, .int 0]), .inl (X 0, (108, .inl (fun _ => 0))), .inl (X 0, (108, .inl (fun _ => 0)))]) (stW_push (c := [.inr (8, [.int 0, .ref (ad (B + 1)), .null, .null, .int 0, .null, .int 0, .null, .int 0, .null, .null, .int 0, .int 0, .int 0]), .inl (X 0, (108, .inl (fun _ => 0)))])) ?_
  refine g_putF C iX tyX8 tyX8_ok nmX8 (hin rfl) (show B < B + 3 by omega) stW_0 rfl 2 (by decide) L13 rfl rfl rfl rfl (Nat.le_of_ble_eq_true rfl) dX8_init_17 ?_
  refine gv_eqG (G' := stW B G [.inr (8, [.int 0, .ref (ad (B + 1)), .ref (ad (B + 2)), .null, .int 0, .null, .int 0, .null, .int 0, .null, .null, .int 0, .int 0, .int 0]), .inl (X 0, (108, .inl (fun _ => 0))), .inl (X 0, (108, .inl (fun _ => 0)))]) (stW_up (k := 0) (Nat.le_of_ble_eq_true rfl)) ?_
  refine g_aload_n C dX8_init_20 rfl 0 rfl ?_
  refine g_sipush (v := 432) C dX8_init_21 (by decide) ?_
  refine g_newa (ty := .int) (a0 := (432, .inl (fun _ => 0))) (N' := 432) C Z (by omega) rfl AI 0 rfl (fun _ => rfl) (by decide) (by decide) (by decide) (Nat.le_of_ble_eq_true rfl) (Nat.le_of_ble_eq_true rfl) dX8_init_24 ?_
  refine gv_eqG (G' := stW B G [.inr (8, [.int 0, .ref (ad (B + 1)), .ref (ad (B + 2)), .null, .int 0, .null, .int 0, .null, .int 0, .null, .null, .int 0, .int 0, .int 0]), .inl (X 0, (108, .inl (fun _ => 0))), .inl (X 0, (108, .inl (fun _ => 0))), .inl (X 0, (432, .inl (fun _ => 0)))]) (stW_push (c := [.inr (8, [.int 0, .ref (ad (B + 1)), .ref (ad (B + 2)), .null, .int 0, .null, .int 0, .null, .int 0, .null, .null, .int 0, .int 0, .int 0]), .inl (X 0, (108, .inl (fun _ => 0))), .inl (X 0, (108, .inl (fun _ => 0)))])) ?_
  refine g_putF C iX tyX8 tyX8_ok nmX8 (hin rfl) (show B < B + 4 by omega) stW_0 rfl 3 (by decide) L16 rfl rfl rfl rfl (Nat.le_of_ble_eq_true rfl) dX8_init_26 ?_
  refine gv_eqG (G' := stW B G [.inr (8, [.int 0, .ref (ad (B + 1)), .ref (ad (B + 2)), .ref (ad (B + 3)), .int 0, .null, .int 0, .null, .int 0, .null, .null, .int 0, .int 0, .int 0]), .inl (X 0, (108, .inl (fun _ => 0))), .inl (X 0, (108, .inl (fun _ => 0))), .inl (X 0, (432, .inl (fun _ => 0)))]) (stW_up (k := 0) (Nat.le_of_ble_eq_true rfl)) ?_
  refine g_aload_n C dX8_init_29 rfl 0 rfl ?_
  refine g_bipush (v := 108) C dX8_init_30 (by decide) ?_
  refine g_newa (ty := .int) (a0 := (108, .inl (fun _ => 0))) (N' := 108) C Z (by omega) rfl AI 0 rfl (fun _ => rfl) (by decide) (by decide) (by decide) (Nat.le_of_ble_eq_true rfl) (Nat.le_of_ble_eq_true rfl) dX8_init_32 ?_
  refine gv_eqG (G' := stW B G [.inr (8, [.int 0, .ref (ad (B + 1)), .ref (ad (B + 2)), .ref (ad (B + 3)), .int 0, .null, .int 0, .null, .int 0, .null, .null, .int 0, .int 0, .int 0]), .inl (X 0, (108, .inl (fun _ => 0))), .inl (X 0, (108, .inl (fun _ => 0))), .inl (X 0, (432, .inl (fun _ => 0))), .inl (X 0, (108, .inl (fun _ => 0)))]) (stW_push (c := [.inr (8, [.int 0, .ref (ad (B + 1)), .ref (ad (B + 2)), .ref (ad (B + 3)), .int 0, .null, .int 0, .null, .int 0, .null, .null, .int 0, .int 0, .int 0]), .inl (X 0, (108, .inl (fun _ => 0))), .inl (X 0, (108, .inl (fun _ => 0))), .inl (X 0, (432, .inl (fun _ => 0)))])) ?_
  refine g_putF C iX tyX8 tyX8_ok nmX8 (hin rfl) (show B < B + 5 by omega) stW_0 rfl 5 (by decide) L19 rfl rfl rfl rfl (Nat.le_of_ble_eq_true rfl) dX8_init_34 ?_
  refine gv_eqG (G' := stW B G [.inr (8, [.int 0, .ref (ad (B + 1)), .ref (ad (B + 2)), .ref (ad (B + 3)), .int 0, .ref (ad (B + 4)), .int 0, .null, .int 0, .null, .null, .int 0, .int 0, .int 0]), .inl (X 0, (108, .inl (fun _ => 0))), .inl (X 0, (108, .inl (fun _ => 0))), .inl (X 0, (432, .inl (fun _ => 0))), .inl (X 0, (108, .inl (fun _ => 0)))]) (stW_up (k := 0) (Nat.le_of_ble_eq_true rfl)) ?_
  refine g_aload_n C dX8_init_37 rfl 0 rfl ?_
  refine g_bipush (v := 60) C dX8_init_38 (by decide) ?_
  refine g_newa (ty := .int) (a0 := (60, .inl (fun _ => 0))) (N' := 60) C Z (by omega) rfl AI 0 rfl (fun _ => rfl) (by decide) (by decide) (by decide) (Nat.le_of_ble_eq_true rfl) (Nat.le_of_ble_eq_true rfl) dX8_init_40 ?_
  refine gv_eqG (G' := stW B G [.inr (8, [.int 0, .ref (ad (B + 1)), .ref (ad (B + 2)), .ref (ad (B + 3)), .int 0, .ref (ad (B + 4)), .int 0, .null, .int 0, .null, .null, .int 0, .int 0, .int 0]), .inl (X 0, (108, .inl (fun _ => 0))), .inl (X 0, (108, .inl (fun _ => 0))), .inl (X 0, (432, .inl (fun _ => 0))), .inl (X 0, (108, .inl (fun _ => 0))), .inl (X 0, (60, .inl (fun _ => 0)))]) (stW_push (c := [.inr (8, [.int 0, .ref (ad (B + 1)), .ref (ad (B + 2)), .ref (ad (B + 3)), .int 0, .ref (ad (B + 4)), .int 0, .null, .int 0, .null, .null, .int 0, .int 0, .int 0]), .inl (X 0, (108, .inl (fun _ => 0))), .inl (X 0, (108, .inl (fun _ => 0))), .inl (X 0, (432, .inl (fun _ => 0))), .inl (X 0, (108, .inl (fun _ => 0)))])) ?_
  refine g_putF C iX tyX8 tyX8_ok nmX8 (hin rfl) (show B < B + 6 by omega) stW_0 rfl 7 (by decide) L22 rfl rfl rfl rfl (Nat.le_of_ble_eq_true rfl) dX8_init_42 ?_
  refine gv_eqG (G' := stW B G [.inr (8, [.int 0, .ref (ad (B + 1)), .ref (ad (B + 2)), .ref (ad (B + 3)), .int 0, .ref (ad (B + 4)), .int 0, .ref (ad (B + 5)), .int 0, .null, .null, .int 0, .int 0, .int 0]), .inl (X 0, (108, .inl (fun _ => 0))), .inl (X 0, (108, .inl (fun _ => 0))), .inl (X 0, (432, .inl (fun _ => 0))), .inl (X 0, (108, .inl (fun _ => 0))), .inl (X 0, (60, .inl (fun _ => 0)))]) (stW_up (k := 0) (Nat.le_of_ble_eq_true rfl)) ?_
  refine g_aload_n C dX8_init_45 rfl 0 rfl ?_
  refine g_bipush (v := 32) C dX8_init_46 (by decide) ?_
  refine g_newa (ty := .int) (a0 := (32, .inl (fun _ => 0))) (N' := 32) C Z (by omega) rfl AI 0 rfl (fun _ => rfl) (by decide) (by decide) (by decide) (Nat.le_of_ble_eq_true rfl) (Nat.le_of_ble_eq_true rfl) dX8_init_48 ?_
  refine gv_eqG (G' := stW B G [.inr (8, [.int 0, .ref (ad (B + 1)), .ref (ad (B + 2)), .ref (ad (B + 3)), .int 0, .ref (ad (B + 4)), .int 0, .ref (ad (B + 5)), .int 0, .null, .null, .int 0, .int 0, .int 0]), .inl (X 0, (108, .inl (fun _ => 0))), .inl (X 0, (108, .inl (fun _ => 0))), .inl (X 0, (432, .inl (fun _ => 0))), .inl (X 0, (108, .inl (fun _ => 0))), .inl (X 0, (60, .inl (fun _ => 0))), .inl (X 0, (32, .inl (fun _ => 0)))]) (stW_push (c := [.inr (8, [.int 0, .ref (ad (B + 1)), .ref (ad (B + 2)), .ref (ad (B + 3)), .int 0, .ref (ad (B + 4)), .int 0, .ref (ad (B + 5)), .int 0, .null, .null, .int 0, .int 0, .int 0]), .inl (X 0, (108, .inl (fun _ => 0))), .inl (X 0, (108, .inl (fun _ => 0))), .inl (X 0, (432, .inl (fun _ => 0))), .inl (X 0, (108, .inl (fun _ => 0))), .inl (X 0, (60, .inl (fun _ => 0)))])) ?_
  refine g_putF C iX tyX8 tyX8_ok nmX8 (hin rfl) (show B < B + 7 by omega) stW_0 rfl 9 (by decide) L25 rfl rfl rfl rfl (Nat.le_of_ble_eq_true rfl) dX8_init_50 ?_
  refine gv_eqG (G' := stW B G [.inr (8, [.int 0, .ref (ad (B + 1)), .ref (ad (B + 2)), .ref (ad (B + 3)), .int 0, .ref (ad (B + 4)), .int 0, .ref (ad (B + 5)), .int 0, .ref (ad (B + 6)), .null, .int 0, .int 0, .int 0]), .inl (X 0, (108, .inl (fun _ => 0))), .inl (X 0, (108, .inl (fun _ => 0))), .inl (X 0, (432, .inl (fun _ => 0))), .inl (X 0, (108, .inl (fun _ => 0))), .inl (X 0, (60, .inl (fun _ => 0))), .inl (X 0, (32, .inl (fun _ => 0)))]) (stW_up (k := 0) (Nat.le_of_ble_eq_true rfl)) ?_
  refine g_aload_n C dX8_init_53 rfl 0 rfl ?_
  refine g_bipush (v := 32) C dX8_init_54 (by decide) ?_
  refine g_newa (ty := .int) (a0 := (32, .inl (fun _ => 0))) (N' := 32) C Z (by omega) rfl AI 0 rfl (fun _ => rfl) (by decide) (by decide) (by decide) (Nat.le_of_ble_eq_true rfl) (Nat.le_of_ble_eq_true rfl) dX8_init_56 ?_
  refine gv_eqG (G' := stW B G [.inr (8, [.int 0, .ref (ad (B + 1)), .ref (ad (B + 2)), .ref (ad (B + 3)), .int 0, .ref (ad (B + 4)), .int 0, .ref (ad (B + 5)), .int 0, .ref (ad (B + 6)), .null, .int 0, .int 0, .int 0]), .inl (X 0, (108, .inl (fun _ => 0))), .inl (X 0, (108, .inl (fun _ => 0))), .inl (X 0, (432, .inl (fun _ => 0))), .inl (X 0, (108, .inl (fun _ => 0))), .inl (X 0, (60, .inl (fun _ => 0))), .inl (X 0, (32, .inl (fun _ => 0))), .inl (X 0, (32, .inl (fun _ => 0)))]) (stW_push (c := [.inr (8, [.int 0, .ref (ad (B + 1)), .ref (ad (B + 2)), .ref (ad (B + 3)), .int 0, .ref (ad (B + 4)), .int 0, .ref (ad (B + 5)), .int 0, .ref (ad (B + 6)), .null, .int 0, .int 0, .int 0]), .inl (X 0, (108, .inl (fun _ => 0))), .inl (X 0, (108, .inl (fun _ => 0))), .inl (X 0, (432, .inl (fun _ => 0))), .inl (X 0, (108, .inl (fun _ => 0))), .inl (X 0, (60, .inl (fun _ => 0))), .inl (X 0, (32, .inl (fun _ => 0)))])) ?_
  refine g_putF C iX tyX8 tyX8_ok nmX8 (hin rfl) (show B < B + 8 by omega) stW_0 rfl 10 (by decide) L28 rfl rfl rfl rfl (Nat.le_of_ble_eq_true rfl) dX8_init_58 ?_
  refine gv_eqG (G' := stW B G [.inr (8, [.int 0, .ref (ad (B + 1)), .ref (ad (B + 2)), .ref (ad (B + 3)), .int 0, .ref (ad (B + 4)), .int 0, .ref (ad (B + 5)), .int 0, .ref (ad (B + 6)), .ref (ad (B + 7)), .int 0, .int 0, .int 0]), .inl (X 0, (108, .inl (fun _ => 0))), .inl (X 0, (108, .inl (fun _ => 0))), .inl (X 0, (432, .inl (fun _ => 0))), .inl (X 0, (108, .inl (fun _ => 0))), .inl (X 0, (60, .inl (fun _ => 0))), .inl (X 0, (32, .inl (fun _ => 0))), .inl (X 0, (32, .inl (fun _ => 0)))]) (stW_up (k := 0) (Nat.le_of_ble_eq_true rfl)) ?_
  refine g_aload_n C dX8_init_61 rfl 0 rfl ?_
  refine g_iconst (v := 0) C dX8_init_62 (by decide) ?_
  refine g_put C iX tyX8 tyX8_ok nmX8 (show B < B + 8 by omega) stW_0 rfl 0 (by decide) L31 rfl rfl rfl (Nat.le_of_ble_eq_true rfl) dX8_init_63 ?_
  refine gv_eqG (G' := stW B G [.inr (8, [.int 0, .ref (ad (B + 1)), .ref (ad (B + 2)), .ref (ad (B + 3)), .int 0, .ref (ad (B + 4)), .int 0, .ref (ad (B + 5)), .int 0, .ref (ad (B + 6)), .ref (ad (B + 7)), .int 0, .int 0, .int 0]), .inl (X 0, (108, .inl (fun _ => 0))), .inl (X 0, (108, .inl (fun _ => 0))), .inl (X 0, (432, .inl (fun _ => 0))), .inl (X 0, (108, .inl (fun _ => 0))), .inl (X 0, (60, .inl (fun _ => 0))), .inl (X 0, (32, .inl (fun _ => 0))), .inl (X 0, (32, .inl (fun _ => 0)))]) (stW_up (k := 0) (Nat.le_of_ble_eq_true rfl)) ?_
  refine g_aload_n C dX8_init_66 rfl 0 rfl ?_
  refine g_get (v := .ref (ad (B + 1))) C iX (show B < B + 8 by omega) stW_0 rfl 1 (by decide) L7 rfl dX8_init_67 ?_
  refine g_iconst (v := 0) C dX8_init_70 (by decide) ?_
  refine g_sipush (v := 300) C dX8_init_71 (by decide) ?_
  refine g_iast (i := B + 1) (k := 0) C 0 (show B + 1 < B + 8 by omega) stW_at rfl (by unfold vp_in; decide) (by decide) dX8_init_74 ?_
  refine gv_eqG (G' := stW B G [.inr (8, [.int 0, .ref (ad (B + 1)), .ref (ad (B + 2)), .ref (ad (B + 3)), .int 0, .ref (ad (B + 4)), .int 0, .ref (ad (B + 5)), .int 0, .ref (ad (B + 6)), .ref (ad (B + 7)), .int 0, .int 0, .int 0]), .inl (X 0, (108, .inl (upd (fun _ => 0) 0 300))), .inl (X 0, (108, .inl (fun _ => 0))), .inl (X 0, (432, .inl (fun _ => 0))), .inl (X 0, (108, .inl (fun _ => 0))), .inl (X 0, (60, .inl (fun _ => 0))), .inl (X 0, (32, .inl (fun _ => 0))), .inl (X 0, (32, .inl (fun _ => 0)))]) (stW_up (k := 1) (Nat.le_of_ble_eq_true rfl)) ?_
  refine g_aload_n C dX8_init_75 rfl 0 rfl ?_
  refine g_get (v := .ref (ad (B + 1))) C iX (show B < B + 8 by omega) stW_0 rfl 1 (by decide) L7 rfl dX8_init_76 ?_
  refine g_iconst (v := 1) C dX8_init_79 (by decide) ?_
  refine g_iconst (v := 5) C dX8_init_80 (by decide) ?_
  refine g_iast (i := B + 1) (k := 1) C 0 (show B + 1 < B + 8 by omega) stW_at rfl (by unfold vp_in; decide) (by decide) dX8_init_81 ?_
  refine gv_eqG (G' := stW B G [.inr (8, [.int 0, .ref (ad (B + 1)), .ref (ad (B + 2)), .ref (ad (B + 3)), .int 0, .ref (ad (B + 4)), .int 0, .ref (ad (B + 5)), .int 0, .ref (ad (B + 6)), .ref (ad (B + 7)), .int 0, .int 0, .int 0]), .inl (X 0, (108, .inl (upd (upd (fun _ => 0) 0 300) 1 5))), .inl (X 0, (108, .inl (fun _ => 0))), .inl (X 0, (432, .inl (fun _ => 0))), .inl (X 0, (108, .inl (fun _ => 0))), .inl (X 0, (60, .inl (fun _ => 0))), .inl (X 0, (32, .inl (fun _ => 0))), .inl (X 0, (32, .inl (fun _ => 0)))]) (stW_up (k := 1) (Nat.le_of_ble_eq_true rfl)) ?_
  refine g_aload_n C dX8_init_82 rfl 0 rfl ?_
  refine g_get (v := .ref (ad (B + 1))) C iX (show B < B + 8 by omega) stW_0 rfl 1 (by decide) L7 rfl dX8_init_83 ?_
  refine g_iconst (v := 2) C dX8_init_86 (by decide) ?_
  refine g_iconst (v := 5) C dX8_init_87 (by decide) ?_
  refine g_iast (i := B + 1) (k := 2) C 0 (show B + 1 < B + 8 by omega) stW_at rfl (by unfold vp_in; decide) (by decide) dX8_init_88 ?_
  refine gv_eqG (G' := stW B G [.inr (8, [.int 0, .ref (ad (B + 1)), .ref (ad (B + 2)), .ref (ad (B + 3)), .int 0, .ref (ad (B + 4)), .int 0, .ref (ad (B + 5)), .int 0, .ref (ad (B + 6)), .ref (ad (B + 7)), .int 0, .int 0, .int 0]), .inl (X 0, (108, .inl (upd (upd (upd (fun _ => 0) 0 300) 1 5) 2 5))), .inl (X 0, (108, .inl (fun _ => 0))), .inl (X 0, (432, .inl (fun _ => 0))), .inl (X 0, (108, .inl (fun _ => 0))), .inl (X 0, (60, .inl (fun _ => 0))), .inl (X 0, (32, .inl (fun _ => 0))), .inl (X 0, (32, .inl (fun _ => 0)))]) (stW_up (k := 1) (Nat.le_of_ble_eq_true rfl)) ?_
  refine g_aload_n C dX8_init_89 rfl 0 rfl ?_
  refine g_get (v := .ref (ad (B + 1))) C iX (show B < B + 8 by omega) stW_0 rfl 1 (by decide) L7 rfl dX8_init_90 ?_
  refine g_iconst (v := 3) C dX8_init_93 (by decide) ?_
  refine g_sipush (v := 300) C dX8_init_94 (by decide) ?_
  refine g_iast (i := B + 1) (k := 3) C 0 (show B + 1 < B + 8 by omega) stW_at rfl (by unfold vp_in; decide) (by decide) dX8_init_97 ?_
  refine gv_eqG (G' := stW B G [.inr (8, [.int 0, .ref (ad (B + 1)), .ref (ad (B + 2)), .ref (ad (B + 3)), .int 0, .ref (ad (B + 4)), .int 0, .ref (ad (B + 5)), .int 0, .ref (ad (B + 6)), .ref (ad (B + 7)), .int 0, .int 0, .int 0]), .inl (X 0, (108, .inl (upd (upd (upd (upd (fun _ => 0) 0 300) 1 5) 2 5) 3 300))), .inl (X 0, (108, .inl (fun _ => 0))), .inl (X 0, (432, .inl (fun _ => 0))), .inl (X 0, (108, .inl (fun _ => 0))), .inl (X 0, (60, .inl (fun _ => 0))), .inl (X 0, (32, .inl (fun _ => 0))), .inl (X 0, (32, .inl (fun _ => 0)))]) (stW_up (k := 1) (Nat.le_of_ble_eq_true rfl)) ?_
  refine g_aload_n C dX8_init_98 rfl 0 rfl ?_
  refine g_get (v := .ref (ad (B + 1))) C iX (show B < B + 8 by omega) stW_0 rfl 1 (by decide) L7 rfl dX8_init_99 ?_
  refine g_bipush (v := 88) C dX8_init_102 (by decide) ?_
  refine g_iconst (v := 1) C dX8_init_104 (by decide) ?_
  refine g_iast (i := B + 1) (k := 88) C 0 (show B + 1 < B + 8 by omega) stW_at rfl (by unfold vp_in; decide) (by decide) dX8_init_105 ?_
  refine gv_eqG (G' := stW B G [.inr (8, [.int 0, .ref (ad (B + 1)), .ref (ad (B + 2)), .ref (ad (B + 3)), .int 0, .ref (ad (B + 4)), .int 0, .ref (ad (B + 5)), .int 0, .ref (ad (B + 6)), .ref (ad (B + 7)), .int 0, .int 0, .int 0]), .inl (X 0, (108, .inl (upd (upd (upd (upd (upd (fun _ => 0) 0 300) 1 5) 2 5) 3 300) 88 1))), .inl (X 0, (108, .inl (fun _ => 0))), .inl (X 0, (432, .inl (fun _ => 0))), .inl (X 0, (108, .inl (fun _ => 0))), .inl (X 0, (60, .inl (fun _ => 0))), .inl (X 0, (32, .inl (fun _ => 0))), .inl (X 0, (32, .inl (fun _ => 0)))]) (stW_up (k := 1) (Nat.le_of_ble_eq_true rfl)) ?_
  refine g_aload_n C dX8_init_106 rfl 0 rfl ?_
  refine g_get (v := .ref (ad (B + 1))) C iX (show B < B + 8 by omega) stW_0 rfl 1 (by decide) L7 rfl dX8_init_107 ?_
  refine g_bipush (v := 98) C dX8_init_110 (by decide) ?_
  refine g_iconst (v := 2) C dX8_init_112 (by decide) ?_
  refine g_iast (i := B + 1) (k := 98) C 0 (show B + 1 < B + 8 by omega) stW_at rfl (by unfold vp_in; decide) (by decide) dX8_init_113 ?_
  refine gv_eqG (G' := stW B G [.inr (8, [.int 0, .ref (ad (B + 1)), .ref (ad (B + 2)), .ref (ad (B + 3)), .int 0, .ref (ad (B + 4)), .int 0, .ref (ad (B + 5)), .int 0, .ref (ad (B + 6)), .ref (ad (B + 7)), .int 0, .int 0, .int 0]), .inl (X 0, (108, .inl (upd (upd (upd (upd (upd (upd (fun _ => 0) 0 300) 1 5) 2 5) 3 300) 88 1) 98 2))), .inl (X 0, (108, .inl (fun _ => 0))), .inl (X 0, (432, .inl (fun _ => 0))), .inl (X 0, (108, .inl (fun _ => 0))), .inl (X 0, (60, .inl (fun _ => 0))), .inl (X 0, (32, .inl (fun _ => 0))), .inl (X 0, (32, .inl (fun _ => 0)))]) (stW_up (k := 1) (Nat.le_of_ble_eq_true rfl)) ?_
  exact g_vretN C hret hlk rfl (fun _ _ => rfl) dX8_init_114
