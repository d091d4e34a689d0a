abbrev rm_L_low : Room := { frames := 0, cells := 0, slots := 0, locals := 0 }
theorem md_L_low : yL_low.cls = RL ∧ yL_low.cls ≠ "java/lang/invoke/MethodHandle" ∧ yL_low.cls ≠ "java/lang/invoke/VarHandle" ∧ (parseMethodDescriptor yL_low.desc).map (fun d => d.parameters.length) = some 2 := by decide +kernel
theorem c_L_low {l_ : Launch} {sa : Nat → Nat} {D : va_G} {X : Nat → ClassId} {ad : Nat → Nat} (x n : Int32) (hn : ¬ n = 0) (G : Nat → va_E) : CT l_ yL_low wsL_low rm_L_low sa D (tyX X) 120 ad G [.int x, .int n] (some (.int (lowf x n))) G := by
  refine ct_of [(0, .int x), (1, .int n)] (by decide +kernel) rfl rfl (Nat.le_of_ble_eq_true rfl) rfl ?_
  intro p_ e_ s_ m_ args_ below_ meth_ c_ C hret hlk hin
  refine g_iload_n C dL_low_0 rfl 0 rfl ?_
  refine g_ldc (v := 2147483647) C (C.hts _ (by decide +kernel : Cond.constant RL 7 2147483647 ∈ wsL_low)) dL_low_1 ?_
  refine g_iand (v := (x &&& 2147483647)) C dL_low_3 rfl ?_
  refine g_iload_n C dL_low_4 rfl 1 rfl ?_
  refine g_irem (v := (lowf x n)) C dL_low_5 hn rfl ?_
  exact g_iret C hret hlk rfl rfl dL_low_6
