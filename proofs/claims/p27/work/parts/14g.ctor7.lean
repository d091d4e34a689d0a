abbrev rm_X1_init : Room := { frames := 4, cells := 65, slots := 496, locals := 90 }
def hsC (X : Nat → ClassId) (ad : Nat → Nat) (B : Nat) : List va_E := (.inr (1, [.ref (ad (B + 1)), .int 0]) :: .inl (X 3, (4, .inr (.inr (.inr (.inr (fun j => some (ad (B + 2 + 16 * j)))))))) :: (stC X ad (B + 2) ++ stC X ad (B + 18) ++ stC X ad (B + 34) ++ stC X ad (B + 50)))
theorem c_X1_init {l_ : Launch} {sa : Nat → Nat} {D : va_G} {X : Nat → ClassId} {ad : Nat → Nat} {hb B : Nat} {G : Nat → va_E} (had : ∀ i, ad i = hb + i) : CTN l_ yX1_init wsX1_init rm_X1_init sa D (tyX X) (B + 1) 65 496 ad (stW B G [.inr (1, [.null, .int 0])]) [.ref (ad B)] none (stW B G (hsC X ad B)) := by
  refine ctn_of had [(0, .ref (ad B))] (by decide +kernel) rfl rfl (Nat.le_of_ble_eq_true rfl) rfl ?_
  intro p_ e_ s_ m_ args_ below_ meth_ c_ C Z hret hlk hin
  have O1 : Cond.methodLink RX1 1 Lib.objectInit ∈ wsX1_init := by decide +kernel
  have O2 : Cond.instanceMethod Lib.objectInit ∈ wsX1_init := by decide +kernel
  have O3 : Cond.code Lib.objectInit ⟨#[0xb1]⟩ 1 none ∈ wsX1_init := by decide +kernel
  have iX1 : ∀ w ∈ u_ws RX1 TX1 2, w ∈ wsX1_init := by decide +kernel
  have iX5 : ∀ w ∈ u_ws RX5 TX5 8, w ∈ wsX1_init := by decide +kernel
  have L11 : Cond.fieldLink RX1 11 (TX1 0).1 (TX1 0).2.1 (TX1 0).2.2.1 ∈ wsX1_init := by decide +kernel
  have L16 : Cond.fieldLink RX1 16 (TX1 1).1 (TX1 1).2.1 (TX1 1).2.2.1 ∈ wsX1_init := by decide +kernel
  have KX5 : Cond.classLink RX1 9 RX5 ∈ wsX1_init := by decide +kernel
  have IX5 : Cond.instantiable RX5 8 ∈ wsX1_init := by decide +kernel
  have NX5 : Cond.initialized RX5 ∈ wsX1_init := by decide +kernel
  have MX5 : Cond.methodLink RX1 15 yX5_init ∈ wsX1_init := by decide +kernel
  have HX5 : Cond.instanceMethod yX5_init ∈ wsX1_init := by decide +kernel
  refine g_aload_n C dX1_init_0 rfl 0 rfl ?_
  refine g_obj C O1 O2 O3 (Nat.le_of_ble_eq_true rfl) (Nat.le_of_ble_eq_true rfl) dX1_init_1 ?_
  refine g_aload_n C dX1_init_4 rfl 0 rfl ?_
  refine g_iconst (v := 4) C dX1_init_5 (by decide) ?_
  refine g_newq (N' := 4) C Z (by omega) KX5 Z.2.2.2.2 3 rfl (by decide) (by decide) (by decide) (Nat.le_of_ble_eq_true rfl) (Nat.le_of_ble_eq_true rfl) dX1_init_6 ?_
  refine gv_eqG (G' := stW B G (.inr (1, [.null, .int 0]) :: .inl (X 3, (4, .inr (.inr (.inr (.inr (fun _ => none)))))) :: ([]))) (stW_push (c := [.inr (1, [.null, .int 0])])) ?_
  refine g_putF C iX1 tyX1 tyX1_ok nmX1 (hin rfl) (show B < B + 2 by omega) stW_0 rfl 0 (by decide) L11 rfl rfl rfl rfl (Nat.le_of_ble_eq_true rfl) dX1_init_9 ?_
  refine gv_eqG (G' := stW B G (.inr (1, [.ref (ad (B + 1)), .int 0]) :: .inl (X 3, (4, .inr (.inr (.inr (.inr (fun _ => none)))))) :: ([]))) (stW_up (k := 0) (Nat.le_of_ble_eq_true rfl)) ?_
  refine g_iconst (v := 0) C dX1_init_12 (by decide) ?_
  refine g_istore_n (lv' := [(1, .int 0), (0, .ref (ad B))]) C dX1_init_13 rfl (by decide) rfl ?_
  refine g_iload_n C dX1_init_14 rfl 0 rfl ?_
  refine g_iconst (v := 4) C dX1_init_15 (by decide) ?_
  refine g_icmp_ge (tgt := 38) C dX1_init_16 (by decide) (fun h => absurd h (by decide : ¬ (4 : Int32) ≤ 0)) (fun _ => ?_)
  refine g_aload_n C dX1_init_19 rfl 1 rfl ?_
  refine g_get (v := .ref (ad (B + 1))) C iX1 (show B < B + 2 by omega) stW_0 rfl 0 (by decide) L11 rfl dX1_init_20 ?_
  refine g_iload_n C dX1_init_23 rfl 0 rfl ?_
  refine g_new (ci := 5) (fs := [.null, .null, .null, .null, .int 0, .int 0, .int 0, .int 0]) C Z (by omega) iX5 tyX5 tyX5_ok KX5 IX5 NX5 rfl (by decide) (Nat.le_of_ble_eq_true rfl) (Nat.le_of_ble_eq_true rfl) dX1_init_24 ?_
  refine gv_eqG (G' := stW B G ((.inr (1, [.ref (ad (B + 1)), .int 0]) :: .inl (X 3, (4, .inr (.inr (.inr (.inr (fun _ => none)))))) :: ([])) ++ [.inr (5, [.null, .null, .null, .null, .int 0, .int 0, .int 0, .int 0])])) (stW_push (c := (.inr (1, [.ref (ad (B + 1)), .int 0]) :: .inl (X 3, (4, .inr (.inr (.inr (.inr (fun _ => none)))))) :: ([])))) ?_
  refine g_dup C dX1_init_27 rfl ?_
  refine gv_eqG (G' := stW (B + 2) (stW B G (.inr (1, [.ref (ad (B + 1)), .int 0]) :: .inl (X 3, (4, .inr (.inr (.inr (.inr (fun _ => none)))))) :: ([]))) [.inr (5, [.null, .null, .null, .null, .int 0, .int 0, .int 0, .int 0])]) (stW_app (c := (.inr (1, [.ref (ad (B + 1)), .int 0]) :: .inl (X 3, (4, .inr (.inr (.inr (.inr (fun _ => none)))))) :: ([]))) (d := [.inr (5, [.null, .null, .null, .null, .int 0, .int 0, .int 0, .int 0])])).symm ?_
  refine g_callI (i := B + 2) C Z (by omega) (c_X5_init (B := B + 2) had) (cwI 0 C.hts gX1_init_X5_init rfl rfl rfl (C.hts _ NX5) (C.hts _ MX5) (C.hts _ HX5) rfl (by decide +kernel) ⟨(Nat.le_of_ble_eq_true rfl), (Nat.le_of_ble_eq_true rfl)⟩) rfl rfl (Nat.le_of_ble_eq_true rfl) dX1_init_28 (Nat.le_of_ble_eq_true rfl) (Nat.le_of_ble_eq_true rfl) ?_
  refine gv_eqG (G' := stW B G (.inr (1, [.ref (ad (B + 1)), .int 0]) :: .inl (X 3, (4, .inr (.inr (.inr (.inr (fun _ => none)))))) :: (stC X ad (B + 2)))) (stW_app (c := (.inr (1, [.ref (ad (B + 1)), .int 0]) :: .inl (X 3, (4, .inr (.inr (.inr (.inr (fun _ => none)))))) :: ([]))) (d := stC X ad (B + 2))) ?_
  refine g_astq (i := B + 1) (j := B + 2) (k := 0) C 3 (show B + 1 < B + 18 by omega) stW_at rfl (show B + 2 < B + 18 by omega) stW_at rfl (by unfold vp_in; decide) (by decide) dX1_init_31 ?_
  refine gv_eqG (G' := stW B G (.inr (1, [.ref (ad (B + 1)), .int 0]) :: .inl (X 3, (4, .inr (.inr (.inr (.inr (va_up (fun _ => none) 0 (some (ad (B + 2))))))))) :: (stC X ad (B + 2)))) (stW_up (k := 1) (Nat.le_of_ble_eq_true rfl)) ?_
  refine g_iinc (v := 1) (k := 0) (lv' := [(1, .int 1), (0, .ref (ad B))]) C dX1_init_32 rfl (by decide) (by decide) rfl ?_
  refine g_goto (tgt := 14) C dX1_init_35 (by decide) ?_
  refine g_iload_n C dX1_init_14 rfl 0 rfl ?_
  refine g_iconst (v := 4) C dX1_init_15 (by decide) ?_
  refine g_icmp_ge (tgt := 38) C dX1_init_16 (by decide) (fun h => absurd h (by decide : ¬ (4 : Int32) ≤ 1)) (fun _ => ?_)
  refine g_aload_n C dX1_init_19 rfl 1 rfl ?_
  refine g_get (v := .ref (ad (B + 1))) C iX1 (show B < B + 18 by omega) stW_0 rfl 0 (by decide) L11 rfl dX1_init_20 ?_
  refine g_iload_n C dX1_init_23 rfl 0 rfl ?_
  refine g_new (ci := 5) (fs := [.null, .null, .null, .null, .int 0, .int 0, .int 0, .int 0]) C Z (by omega) iX5 tyX5 tyX5_ok KX5 IX5 NX5 rfl (by decide) (Nat.le_of_ble_eq_true rfl) (Nat.le_of_ble_eq_true rfl) dX1_init_24 ?_
  refine gv_eqG (G' := stW B G ((.inr (1, [.ref (ad (B + 1)), .int 0]) :: .inl (X 3, (4, .inr (.inr (.inr (.inr (va_up (fun _ => none) 0 (some (ad (B + 2))))))))) :: (stC X ad (B + 2))) ++ [.inr (5, [.null, .null, .null, .null, .int 0, .int 0, .int 0, .int 0])])) (stW_push (c := (.inr (1, [.ref (ad (B + 1)), .int 0]) :: .inl (X 3, (4, .inr (.inr (.inr (.inr (va_up (fun _ => none) 0 (some (ad (B + 2))))))))) :: (stC X ad (B + 2))))) ?_
  refine g_dup C dX1_init_27 rfl ?_
  refine gv_eqG (G' := stW (B + 18) (stW B G (.inr (1, [.ref (ad (B + 1)), .int 0]) :: .inl (X 3, (4, .inr (.inr (.inr (.inr (va_up (fun _ => none) 0 (some (ad (B + 2))))))))) :: (stC X ad (B + 2)))) [.inr (5, [.null, .null, .null, .null, .int 0, .int 0, .int 0, .int 0])]) (stW_app (c := (.inr (1, [.ref (ad (B + 1)), .int 0]) :: .inl (X 3, (4, .inr (.inr (.inr (.inr (va_up (fun _ => none) 0 (some (ad (B + 2))))))))) :: (stC X ad (B + 2)))) (d := [.inr (5, [.null, .null, .null, .null, .int 0, .int 0, .int 0, .int 0])])).symm ?_
  refine g_callI (i := B + 18) C Z (by omega) (c_X5_init (B := B + 18) had) (cwI 0 C.hts gX1_init_X5_init rfl rfl rfl (C.hts _ NX5) (C.hts _ MX5) (C.hts _ HX5) rfl (by decide +kernel) ⟨(Nat.le_of_ble_eq_true rfl), (Nat.le_of_ble_eq_true rfl)⟩) rfl rfl (Nat.le_of_ble_eq_true rfl) dX1_init_28 (Nat.le_of_ble_eq_true rfl) (Nat.le_of_ble_eq_true rfl) ?_
  refine gv_eqG (G' := stW B G (.inr (1, [.ref (ad (B + 1)), .int 0]) :: .inl (X 3, (4, .inr (.inr (.inr (.inr (va_up (fun _ => none) 0 (some (ad (B + 2))))))))) :: (stC X ad (B + 2) ++ stC X ad (B + 18)))) (stW_app (c := (.inr (1, [.ref (ad (B + 1)), .int 0]) :: .inl (X 3, (4, .inr (.inr (.inr (.inr (va_up (fun _ => none) 0 (some (ad (B + 2))))))))) :: (stC X ad (B + 2)))) (d := stC X ad (B + 18))) ?_
  refine g_astq (i := B + 1) (j := B + 18) (k := 1) C 3 (show B + 1 < B + 34 by omega) stW_at rfl (show B + 18 < B + 34 by omega) stW_at rfl (by unfold vp_in; decide) (by decide) dX1_init_31 ?_
  refine gv_eqG (G' := stW B G (.inr (1, [.ref (ad (B + 1)), .int 0]) :: .inl (X 3, (4, .inr (.inr (.inr (.inr (va_up (va_up (fun _ => none) 0 (some (ad (B + 2)))) 1 (some (ad (B + 18))))))))) :: (stC X ad (B + 2) ++ stC X ad (B + 18)))) (stW_up (k := 1) (Nat.le_of_ble_eq_true rfl)) ?_
  refine g_iinc (v := 2) (k := 0) (lv' := [(1, .int 2), (0, .ref (ad B))]) C dX1_init_32 rfl (by decide) (by decide) rfl ?_
  refine g_goto (tgt := 14) C dX1_init_35 (by decide) ?_
  refine g_iload_n C dX1_init_14 rfl 0 rfl ?_
  refine g_iconst (v := 4) C dX1_init_15 (by decide) ?_
  refine g_icmp_ge (tgt := 38) C dX1_init_16 (by decide) (fun h => absurd h (by decide : ¬ (4 : Int32) ≤ 2)) (fun _ => ?_)
  refine g_aload_n C dX1_init_19 rfl 1 rfl ?_
  refine g_get (v := .ref (ad (B + 1))) C iX1 (show B < B + 34 by omega) stW_0 rfl 0 (by decide) L11 rfl dX1_init_20 ?_
  refine g_iload_n C dX1_init_23 rfl 0 rfl ?_
  refine g_new (ci := 5) (fs := [.null, .null, .null, .null, .int 0, .int 0, .int 0, .int 0]) C Z (by omega) iX5 tyX5 tyX5_ok KX5 IX5 NX5 rfl (by decide) (Nat.le_of_ble_eq_true rfl) (Nat.le_of_ble_eq_true rfl) dX1_init_24 ?_
  refine gv_eqG (G' := stW B G ((.inr (1, [.ref (ad (B + 1)), .int 0]) :: .inl (X 3, (4, .inr (.inr (.inr (.inr (va_up (va_up (fun _ => none) 0 (some (ad (B + 2)))) 1 (some (ad (B + 18))))))))) :: (stC X ad (B + 2) ++ stC X ad (B + 18))) ++ [.inr (5, [.null, .null, .null, .null, .int 0, .int 0, .int 0, .int 0])])) (stW_push (c := (.inr (1, [.ref (ad (B + 1)), .int 0]) :: .inl (X 3, (4, .inr (.inr (.inr (.inr (va_up (va_up (fun _ => none) 0 (some (ad (B + 2)))) 1 (some (ad (B + 18))))))))) :: (stC X ad (B + 2) ++ stC X ad (B + 18))))) ?_
  refine g_dup C dX1_init_27 rfl ?_
  refine gv_eqG (G' := stW (B + 34) (stW B G (.inr (1, [.ref (ad (B + 1)), .int 0]) :: .inl (X 3, (4, .inr (.inr (.inr (.inr (va_up (va_up (fun _ => none) 0 (some (ad (B + 2)))) 1 (some (ad (B + 18))))))))) :: (stC X ad (B + 2) ++ stC X ad (B + 18)))) [.inr (5, [.null, .null, .null, .null, .int 0, .int 0, .int 0, .int 0])]) (stW_app (c := (.inr (1, [.ref (ad (B + 1)), .int 0]) :: .inl (X 3, (4, .inr (.inr (.inr (.inr (va_up (va_up (fun _ => none) 0 (some (ad (B + 2)))) 1 (some (ad (B + 18))))))))) :: (stC X ad (B + 2) ++ stC X ad (B + 18)))) (d := [.inr (5, [.null, .null, .null, .null, .int 0, .int 0, .int 0, .int 0])])).symm ?_
  refine g_callI (i := B + 34) C Z (by omega) (c_X5_init (B := B + 34) had) (cwI 0 C.hts gX1_init_X5_init rfl rfl rfl (C.hts _ NX5) (C.hts _ MX5) (C.hts _ HX5) rfl (by decide +kernel) ⟨(Nat.le_of_ble_eq_true rfl), (Nat.le_of_ble_eq_true rfl)⟩) rfl rfl (Nat.le_of_ble_eq_true rfl) dX1_init_28 (Nat.le_of_ble_eq_true rfl) (Nat.le_of_ble_eq_true rfl) ?_
  refine gv_eqG (G' := stW B G (.inr (1, [.ref (ad (B + 1)), .int 0]) :: .inl (X 3, (4, .inr (.inr (.inr (.inr (va_up (va_up (fun _ => none) 0 (some (ad (B + 2)))) 1 (some (ad (B + 18))))))))) :: (stC X ad (B + 2) ++ stC X ad (B + 18) ++ stC X ad (B + 34)))) (stW_app (c := (.inr (1, [.ref (ad (B + 1)), .int 0]) :: .inl (X 3, (4, .inr (.inr (.inr (.inr (va_up (va_up (fun _ => none) 0 (some (ad (B + 2)))) 1 (some (ad (B + 18))))))))) :: (stC X ad (B + 2) ++ stC X ad (B + 18)))) (d := stC X ad (B + 34))) ?_
  refine g_astq (i := B + 1) (j := B + 34) (k := 2) C 3 (show B + 1 < B + 50 by omega) stW_at rfl (show B + 34 < B + 50 by omega) stW_at rfl (by unfold vp_in; decide) (by decide) dX1_init_31 ?_
  refine gv_eqG (G' := stW B G (.inr (1, [.ref (ad (B + 1)), .int 0]) :: .inl (X 3, (4, .inr (.inr (.inr (.inr (va_up (va_up (va_up (fun _ => none) 0 (some (ad (B + 2)))) 1 (some (ad (B + 18)))) 2 (some (ad (B + 34))))))))) :: (stC X ad (B + 2) ++ stC X ad (B + 18) ++ stC X ad (B + 34)))) (stW_up (k := 1) (Nat.le_of_ble_eq_true rfl)) ?_
  refine g_iinc (v := 3) (k := 0) (lv' := [(1, .int 3), (0, .ref (ad B))]) C dX1_init_32 rfl (by decide) (by decide) rfl ?_
  refine g_goto (tgt := 14) C dX1_init_35 (by decide) ?_
  refine g_iload_n C dX1_init_14 rfl 0 rfl ?_
  refine g_iconst (v := 4) C dX1_init_15 (by decide) ?_
  refine g_icmp_ge (tgt := 38) C dX1_init_16 (by decide) (fun h => absurd h (by decide : ¬ (4 : Int32) ≤ 3)) (fun _ => ?_)
  refine g_aload_n C dX1_init_19 rfl 1 rfl ?_
  refine g_get (v := .ref (ad (B + 1))) C iX1 (show B < B + 50 by omega) stW_0 rfl 0 (by decide) L11 rfl dX1_init_20 ?_
  refine g_iload_n C dX1_init_23 rfl 0 rfl ?_
  refine g_new (ci := 5) (fs := [.null, .null, .null, .null, .int 0, .int 0, .int 0, .int 0]) C Z (by omega) iX5 tyX5 tyX5_ok KX5 IX5 NX5 rfl (by decide) (Nat.le_of_ble_eq_true rfl) (Nat.le_of_ble_eq_true rfl) dX1_init_24 ?_
  refine gv_eqG (G' := stW B G ((.inr (1, [.ref (ad (B + 1)), .int 0]) :: .inl (X 3, (4, .inr (.inr (.inr (.inr (va_up (va_up (va_up (fun _ => none) 0 (some (ad (B + 2)))) 1 (some (ad (B + 18)))) 2 (some (ad (B + 34))))))))) :: (stC X ad (B + 2) ++ stC X ad (B + 18) ++ stC X ad (B + 34))) ++ [.inr (5, [.null, .null, .null, .null, .int 0, .int 0, .int 0, .int 0])])) (stW_push (c := (.inr (1, [.ref (ad (B + 1)), .int 0]) :: .inl (X 3, (4, .inr (.inr (.inr (.inr (va_up (va_up (va_up (fun _ => none) 0 (some (ad (B + 2)))) 1 (some (ad (B + 18)))) 2 (some (ad (B + 34))))))))) :: (stC X ad (B + 2) ++ stC X ad (B + 18) ++ stC X ad (B + 34))))) ?_
  refine g_dup C dX1_init_27 rfl ?_
  refine gv_eqG (G' := stW (B + 50) (stW B G (.inr (1, [.ref (ad (B + 1)), .int 0]) :: .inl (X 3, (4, .inr (.inr (.inr (.inr (va_up (va_up (va_up (fun _ => none) 0 (some (ad (B + 2)))) 1 (some (ad (B + 18)))) 2 (some (ad (B + 34))))))))) :: (stC X ad (B + 2) ++ stC X ad (B + 18) ++ stC X ad (B + 34)))) [.inr (5, [.null, .null, .null, .null, .int 0, .int 0, .int 0, .int 0])]) (stW_app (c := (.inr (1, [.ref (ad (B + 1)), .int 0]) :: .inl (X 3, (4, .inr (.inr (.inr (.inr (va_up (va_up (va_up (fun _ => none) 0 (some (ad (B + 2)))) 1 (some (ad (B + 18)))) 2 (some (ad (B + 34))))))))) :: (stC X ad (B + 2) ++ stC X ad (B + 18) ++ stC X ad (B + 34)))) (d := [.inr (5, [.null, .null, .null, .null, .int 0, .int 0, .int 0, .int 0])])).symm ?_
  refine g_callI (i := B + 50) C Z (by omega) (c_X5_init (B := B + 50) had) (cwI 0 C.hts gX1_init_X5_init rfl rfl rfl (C.hts _ NX5) (C.hts _ MX5) (C.hts _ HX5) rfl (by decide +kernel) ⟨(Nat.le_of_ble_eq_true rfl), (Nat.le_of_ble_eq_true rfl)⟩) rfl rfl (Nat.le_of_ble_eq_true rfl) dX1_init_28 (Nat.le_of_ble_eq_true rfl) (Nat.le_of_ble_eq_true rfl) ?_
  refine gv_eqG (G' := stW B G (.inr (1, [.ref (ad (B + 1)), .int 0]) :: .inl (X 3, (4, .inr (.inr (.inr (.inr (va_up (va_up (va_up (fun _ => none) 0 (some (ad (B + 2)))) 1 (some (ad (B + 18)))) 2 (some (ad (B + 34))))))))) :: (stC X ad (B + 2) ++ stC X ad (B + 18) ++ stC X ad (B + 34) ++ stC X ad (B + 50)))) (stW_app (c := (.inr (1, [.ref (ad (B + 1)), .int 0]) :: .inl (X 3, (4, .inr (.inr (.inr (.inr (va_up (va_up (va_up (fun _ => none) 0 (some (ad (B + 2)))) 1 (some (ad (B + 18)))) 2 (some (ad (B + 34))))))))) :: (stC X ad (B + 2) ++ stC X ad (B + 18) ++ stC X ad (B + 34)))) (d := stC X ad (B + 50))) ?_
  refine g_astq (i := B + 1) (j := B + 50) (k := 3) C 3 (show B + 1 < B + 66 by omega) stW_at rfl (show B + 50 < B + 66 by omega) stW_at rfl (by unfold vp_in; decide) (by decide) dX1_init_31 ?_
  refine gv_eqG (G' := stW B G (.inr (1, [.ref (ad (B + 1)), .int 0]) :: .inl (X 3, (4, .inr (.inr (.inr (.inr (va_up (va_up (va_up (va_up (fun _ => none) 0 (some (ad (B + 2)))) 1 (some (ad (B + 18)))) 2 (some (ad (B + 34)))) 3 (some (ad (B + 50))))))))) :: (stC X ad (B + 2) ++ stC X ad (B + 18) ++ stC X ad (B + 34) ++ stC X ad (B + 50)))) (stW_up (k := 1) (Nat.le_of_ble_eq_true rfl)) ?_
  refine g_iinc (v := 4) (k := 0) (lv' := [(1, .int 4), (0, .ref (ad B))]) C dX1_init_32 rfl (by decide) (by decide) rfl ?_
  refine g_goto (tgt := 14) C dX1_init_35 (by decide) ?_
  refine g_iload_n C dX1_init_14 rfl 0 rfl ?_
  refine g_iconst (v := 4) C dX1_init_15 (by decide) ?_
  refine g_icmp_ge (tgt := 38) C dX1_init_16 (by decide) (fun _ => ?_) (fun h => absurd (by decide : (4 : Int32) ≤ 4) h)
  refine gv_eqP (G' := stW B G (.inr (1, [.ref (ad (B + 1)), .int 0]) :: .inl (X 3, (4, .inr (.inr (.inr (.inr (fun j => some (ad (B + 2 + 16 * j)))))))) :: (stC X ad (B + 2) ++ stC X ad (B + 18) ++ stC X ad (B + 34) ++ stC X ad (B + 50)))) (stW_nth (c := (.inr (1, [.ref (ad (B + 1)), .int 0]) :: .inl (X 3, (4, .inr (.inr (.inr (.inr (va_up (va_up (va_up (va_up (fun _ => none) 0 (some (ad (B + 2)))) 1 (some (ad (B + 18)))) 2 (some (ad (B + 34)))) 3 (some (ad (B + 50))))))))) :: (stC X ad (B + 2) ++ stC X ad (B + 18) ++ stC X ad (B + 34) ++ stC X ad (B + 50)))) 1 rfl rfl (fun j hj => ?_) rfl rfl ?_) ?_
  · rcases j with _ | _ | j <;> first | rfl | exact absurd rfl hj
  · rfl
  refine g_aload_n C dX1_init_38 rfl 1 rfl ?_
  refine g_iconst (v := 0) C dX1_init_39 (by decide) ?_
  refine g_put C iX1 tyX1 tyX1_ok nmX1 (show B < B + 66 by omega) stW_0 rfl 1 (by decide) L16 rfl rfl rfl (Nat.le_of_ble_eq_true rfl) dX1_init_40 ?_
  refine gv_eqG (G' := stW B G (.inr (1, [.ref (ad (B + 1)), .int 0]) :: .inl (X 3, (4, .inr (.inr (.inr (.inr (fun j => some (ad (B + 2 + 16 * j)))))))) :: (stC X ad (B + 2) ++ stC X ad (B + 18) ++ stC X ad (B + 34) ++ stC X ad (B + 50)))) (stW_up (k := 0) (Nat.le_of_ble_eq_true rfl)) ?_
  exact g_vretN C hret hlk rfl (fun _ _ => rfl) dX1_init_43
