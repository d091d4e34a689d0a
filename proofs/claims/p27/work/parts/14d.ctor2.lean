/-- the first settings -/
def fs0 : Nat → Int32 := va_cpy (fun x => ([300, 5, 5, 300] : List Int32).getD x 0) (fun _ => 0) 0 0 4
theorem fs0_eq : ((upd (upd (upd (upd (fun _ => 0) 0 (([300, 5, 5, 300] : List Int32).getD 0 0)) 1 (([300, 5, 5, 300] : List Int32).getD 1 0)) 2 (([300, 5, 5, 300] : List Int32).getD 2 0)) 3 (([300, 5, 5, 300] : List Int32).getD 3 0)) : Nat → Int32) = fs0 := by
  funext i
  match i with
  | 0 => first | rfl | decide | simp [fs0, va_cpy, upd]
  | 1 => first | rfl | decide | simp [fs0, va_cpy, upd]
  | 2 => first | rfl | decide | simp [fs0, va_cpy, upd]
  | 3 => first | rfl | decide | simp [fs0, va_cpy, upd]
  | i + 4 => first | simp [fs0, va_cpy, upd] | (simp [fs0, va_cpy, upd]; omega)
abbrev rm_X4_init : Room := { frames := 2, cells := 1, slots := 4, locals := 40 }
theorem c_X4_init {l_ : Launch} {sa : Nat → Nat} {D : va_G} {X : Nat → ClassId} {ad : Nat → Nat} {hb B : Nat} {G : Nat → va_E} (had : ∀ i, ad i = hb + i) : CTN l_ yX4_init wsX4_init rm_X4_init sa D (tyX X) (B + 1) 1 4 ad (stW B G [.inr (4, [.null])]) [.ref (ad B)] none (stW B G [.inr (4, [.ref (ad (B + 1))]), .inl (X 0, (4, .inl fs0))]) := by
  refine ctn_of had [(0, .ref (ad B))] (by decide +kernel) rfl rfl (Nat.le_of_ble_eq_true rfl) rfl ?_
  intro p_ e_ s_ m_ args_ below_ meth_ c_ C Z hret hlk hin
  have O1 : Cond.methodLink RX4 1 Lib.objectInit ∈ wsX4_init := by decide +kernel
  have O2 : Cond.instanceMethod Lib.objectInit ∈ wsX4_init := by decide +kernel
  have O3 : Cond.code Lib.objectInit ⟨#[0xb1]⟩ 1 none ∈ wsX4_init := by decide +kernel
  have iX4 : ∀ w ∈ u_ws RX4 TX4 1, w ∈ wsX4_init := by decide +kernel
  have L13 : Cond.fieldLink RX4 13 (TX4 0).1 (TX4 0).2.1 (TX4 0).2.2.1 ∈ wsX4_init := by decide +kernel
  have S7 : Cond.fieldLink RX4 7 "FlameGuards$Settings" "FIRST" "[I" ∈ wsX4_init := by decide +kernel
  have AI : Cond.arrayClass .int ∈ wsX4_init := by decide +kernel
  refine g_aload_n C dX4_init_0 rfl 0 rfl ?_
  refine g_obj C O1 O2 O3 (Nat.le_of_ble_eq_true rfl) (Nat.le_of_ble_eq_true rfl) dX4_init_1 ?_
  refine g_aload_n C dX4_init_4 rfl 0 rfl ?_
  refine g_gets C 2 rfl S7 dX4_init_5 ?_
  refine g_tlen (v := 4) C 2 rfl (by decide) dX4_init_8 ?_
  refine g_newa (ty := .int) (a0 := (4, .inl (fun _ => 0))) (N' := 4) C Z rfl rfl AI 0 rfl (fun _ => rfl) (by decide) (by decide) (by decide) (Nat.le_of_ble_eq_true rfl) (Nat.le_of_ble_eq_true rfl) dX4_init_9 ?_
  refine gv_eqG (stW_push (c := [.inr (4, [.null])])) ?_
  refine g_putF C iX4 tyX4 tyX4_ok nmX4 (hin rfl) (show B < B + 1 + 1 by omega) stW_0 rfl 0 (by decide) L13 rfl rfl rfl rfl (Nat.le_of_ble_eq_true rfl) dX4_init_11 ?_
  refine gv_eqG (G' := stW B G [.inr (4, [.ref (ad (B + 1))]), .inl (X 0, (4, .inl (fun _ => 0)))]) (stW_up (k := 0) (Nat.le_of_ble_eq_true rfl)) ?_
  refine g_iconst (v := 0) C dX4_init_14 (by decide) ?_
  refine g_istore_n (lv' := [(1, .int 0), (0, .ref (ad B))]) C dX4_init_15 rfl (by decide) rfl ?_
  refine g_iload_n C dX4_init_16 rfl 0 rfl ?_
  refine g_gets C 2 rfl S7 dX4_init_17 ?_
  refine g_tlen (v := 4) C 2 rfl (by decide) dX4_init_20 ?_
  refine g_icmp_ge (tgt := 41) C dX4_init_21 (by decide) (fun z => absurd z (by decide)) (fun _ => ?_)
  refine g_aload_n C dX4_init_24 rfl 1 rfl ?_
  refine g_get (v := .ref (ad (B + 1))) C iX4 (show B < B + 1 + 1 by omega) stW_0 rfl 0 (by decide) L13 rfl dX4_init_25 ?_
  refine g_iload_n C dX4_init_28 rfl 0 rfl ?_
  refine g_gets C 2 rfl S7 dX4_init_29 ?_
  refine g_iload_n C dX4_init_32 rfl 0 rfl ?_
  refine g_tald (z := 0) C 2 rfl (by unfold vp_in; decide) rfl dX4_init_33 ?_
  refine g_iast (k := 0) (N := 4) (cA := X 0) (f := (fun _ => 0)) C 0 (show B + 1 < B + 1 + 1 by omega) (stW_at (k := 1)) rfl (by unfold vp_in; decide) rfl dX4_init_34 ?_
  refine gv_eqG (G' := stW B G [.inr (4, [.ref (ad (B + 1))]), .inl (X 0, (4, .inl (upd (fun _ => 0) 0 (([300, 5, 5, 300] : List Int32).getD 0 0))))]) (stW_up (k := 1) (Nat.le_of_ble_eq_true rfl)) ?_
  refine g_iinc (k := 0) (v := 1) (lv' := [(1, .int 1), (0, .ref (ad B))]) C dX4_init_35 rfl (by decide) (by decide) rfl ?_
  refine g_goto (tgt := 16) C dX4_init_38 (by decide) ?_
  refine g_iload_n C dX4_init_16 rfl 0 rfl ?_
  refine g_gets C 2 rfl S7 dX4_init_17 ?_
  refine g_tlen (v := 4) C 2 rfl (by decide) dX4_init_20 ?_
  refine g_icmp_ge (tgt := 41) C dX4_init_21 (by decide) (fun z => absurd z (by decide)) (fun _ => ?_)
  refine g_aload_n C dX4_init_24 rfl 1 rfl ?_
  refine g_get (v := .ref (ad (B + 1))) C iX4 (show B < B + 1 + 1 by omega) stW_0 rfl 0 (by decide) L13 rfl dX4_init_25 ?_
  refine g_iload_n C dX4_init_28 rfl 0 rfl ?_
  refine g_gets C 2 rfl S7 dX4_init_29 ?_
  refine g_iload_n C dX4_init_32 rfl 0 rfl ?_
  refine g_tald (z := 1) C 2 rfl (by unfold vp_in; decide) rfl dX4_init_33 ?_
  refine g_iast (k := 1) (N := 4) (cA := X 0) (f := (upd (fun _ => 0) 0 (([300, 5, 5, 300] : List Int32).getD 0 0))) C 0 (show B + 1 < B + 1 + 1 by omega) (stW_at (k := 1)) rfl (by unfold vp_in; decide) rfl dX4_init_34 ?_
  refine gv_eqG (G' := stW B G [.inr (4, [.ref (ad (B + 1))]), .inl (X 0, (4, .inl (upd (upd (fun _ => 0) 0 (([300, 5, 5, 300] : List Int32).getD 0 0)) 1 (([300, 5, 5, 300] : List Int32).getD 1 0))))]) (stW_up (k := 1) (Nat.le_of_ble_eq_true rfl)) ?_
  refine g_iinc (k := 0) (v := 2) (lv' := [(1, .int 2), (0, .ref (ad B))]) C dX4_init_35 rfl (by decide) (by decide) rfl ?_
  refine g_goto (tgt := 16) C dX4_init_38 (by decide) ?_
  refine g_iload_n C dX4_init_16 rfl 0 rfl ?_
  refine g_gets C 2 rfl S7 dX4_init_17 ?_
  refine g_tlen (v := 4) C 2 rfl (by decide) dX4_init_20 ?_
  refine g_icmp_ge (tgt := 41) C dX4_init_21 (by decide) (fun z => absurd z (by decide)) (fun _ => ?_)
  refine g_aload_n C dX4_init_24 rfl 1 rfl ?_
  refine g_get (v := .ref (ad (B + 1))) C iX4 (show B < B + 1 + 1 by omega) stW_0 rfl 0 (by decide) L13 rfl dX4_init_25 ?_
  refine g_iload_n C dX4_init_28 rfl 0 rfl ?_
  refine g_gets C 2 rfl S7 dX4_init_29 ?_
  refine g_iload_n C dX4_init_32 rfl 0 rfl ?_
  refine g_tald (z := 2) C 2 rfl (by unfold vp_in; decide) rfl dX4_init_33 ?_
  refine g_iast (k := 2) (N := 4) (cA := X 0) (f := (upd (upd (fun _ => 0) 0 (([300, 5, 5, 300] : List Int32).getD 0 0)) 1 (([300, 5, 5, 300] : List Int32).getD 1 0))) C 0 (show B + 1 < B + 1 + 1 by omega) (stW_at (k := 1)) rfl (by unfold vp_in; decide) rfl dX4_init_34 ?_
  refine gv_eqG (G' := stW B G [.inr (4, [.ref (ad (B + 1))]), .inl (X 0, (4, .inl (upd (upd (upd (fun _ => 0) 0 (([300, 5, 5, 300] : List Int32).getD 0 0)) 1 (([300, 5, 5, 300] : List Int32).getD 1 0)) 2 (([300, 5, 5, 300] : List Int32).getD 2 0))))]) (stW_up (k := 1) (Nat.le_of_ble_eq_true rfl)) ?_
  refine g_iinc (k := 0) (v := 3) (lv' := [(1, .int 3), (0, .ref (ad B))]) C dX4_init_35 rfl (by decide) (by decide) rfl ?_
  refine g_goto (tgt := 16) C dX4_init_38 (by decide) ?_
  refine g_iload_n C dX4_init_16 rfl 0 rfl ?_
  refine g_gets C 2 rfl S7 dX4_init_17 ?_
  refine g_tlen (v := 4) C 2 rfl (by decide) dX4_init_20 ?_
  refine g_icmp_ge (tgt := 41) C dX4_init_21 (by decide) (fun z => absurd z (by decide)) (fun _ => ?_)
  refine g_aload_n C dX4_init_24 rfl 1 rfl ?_
  refine g_get (v := .ref (ad (B + 1))) C iX4 (show B < B + 1 + 1 by omega) stW_0 rfl 0 (by decide) L13 rfl dX4_init_25 ?_
  refine g_iload_n C dX4_init_28 rfl 0 rfl ?_
  refine g_gets C 2 rfl S7 dX4_init_29 ?_
  refine g_iload_n C dX4_init_32 rfl 0 rfl ?_
  refine g_tald (z := 3) C 2 rfl (by unfold vp_in; decide) rfl dX4_init_33 ?_
  refine g_iast (k := 3) (N := 4) (cA := X 0) (f := (upd (upd (upd (fun _ => 0) 0 (([300, 5, 5, 300] : List Int32).getD 0 0)) 1 (([300, 5, 5, 300] : List Int32).getD 1 0)) 2 (([300, 5, 5, 300] : List Int32).getD 2 0))) C 0 (show B + 1 < B + 1 + 1 by omega) (stW_at (k := 1)) rfl (by unfold vp_in; decide) rfl dX4_init_34 ?_
  refine gv_eqG (G' := stW B G [.inr (4, [.ref (ad (B + 1))]), .inl (X 0, (4, .inl (upd (upd (upd (upd (fun _ => 0) 0 (([300, 5, 5, 300] : List Int32).getD 0 0)) 1 (([300, 5, 5, 300] : List Int32).getD 1 0)) 2 (([300, 5, 5, 300] : List Int32).getD 2 0)) 3 (([300, 5, 5, 300] : List Int32).getD 3 0))))]) (stW_up (k := 1) (Nat.le_of_ble_eq_true rfl)) ?_
  refine g_iinc (k := 0) (v := 4) (lv' := [(1, .int 4), (0, .ref (ad B))]) C dX4_init_35 rfl (by decide) (by decide) rfl ?_
  refine g_goto (tgt := 16) C dX4_init_38 (by decide) ?_
  refine g_iload_n C dX4_init_16 rfl 0 rfl ?_
  refine g_gets C 2 rfl S7 dX4_init_17 ?_
  refine g_tlen (v := 4) C 2 rfl (by decide) dX4_init_20 ?_
  refine g_icmp_ge (tgt := 41) C dX4_init_21 (by decide) (fun _ => ?_) (fun z => absurd (by decide) z)
  refine gv_eqG (congrArg (fun f : Nat → Int32 => stW B G [.inr (4, [.ref (ad (B + 1))]), .inl (X 0, (4, .inl f))]) fs0_eq) ?_
  exact g_vretN C hret hlk rfl (fun _ _ => rfl) dX4_init_41
