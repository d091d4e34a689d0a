theorem k_sub {j L : Nat} (hL : L ≤ 1536) (hj : j ≤ 2000) (q : ¬ nI L - 3 < nI j) : j + 3 ≤ L := by
  by_cases h : 3 ≤ L
  · have e : nI L - 3 = nI (L - 3) := by
      have : nI L = nI (L - 3) + 3 := by rw [show (3 : Int32) = nI 3 by decide, nI_add]; congr 1; omega
      rw [this]
      exact Int32.add_sub_cancel _ _
    rw [e, nI_ltI (by omega) (by omega)] at q
    omega
  · exfalso
    have h3 : ∀ i, i < 3 → nI i - 3 < 0 := by decide +kernel
    apply q
    exact Int32.lt_of_lt_of_le (h3 L (by omega)) (nI_pos' (by omega))
section
variable {p : Program} {l : Launch} {e : Env} {s : State} {m : MethodId} {below : List Frame} {meth : Method} {c : Code} {sa : Nat → Nat} {D : va_G} {X : Nat → ClassId} {ad : Nat → Nat} {b L : Nat} {xs : Nat → Int32} {ω : Mem} {j pc : Nat} {rest : List Value}
set_option maxRecDepth 100000 in
set_option maxHeartbeats 4000000 in
theorem k_step (C : KC p s m b meth c sa D X) (K : KX s (LA s) b L xs) (hL : L ≤ 1536) (hj2 : j ≤ 2000) (hr : meth.sig.returnType = ret) (hlk : meth.locks = false) (h : LR ω ω) (kk : j + 3 ≤ L → ∀ ω, LR ω ω → LV p l e s m b below meth c D X ad ω (j + 3) 18 []) : LV p l e s m b below meth c D X ad ω j 18 [] := by
  refine g_iload_n C dL_law_18 rfl 0 rfl ?_
  refine g_aload_n C dL_law_19 rfl 3 rfl ?_
  refine g_slen C K dL_law_20 ?_
  refine g_iconst (v := 3) C dL_law_21 (by decide) ?_
  refine g_isub (v := nI L - 3) C dL_law_22 rfl ?_
  refine g_icmp_gt (tgt := 776) C dL_law_23 (by decide) (fun q => ?_) (fun q => ?_)
  · refine g_iconst (v := 1) C dL_law_776 (by decide) ?_
    exact g_lend C hr hlk dL_law_777
  · have hj : j + 3 ≤ L := k_sub hL hj2 q
    refine g_aload_n C dL_law_26 rfl 3 rfl ?_
    refine g_iload_n C dL_law_27 rfl 0 rfl ?_
    refine g_sld C K (vp_in_nI (by omega) (by omega)) (by rw [nI_clamp (by omega)]) dL_law_28 ?_
    refine g_bipush (v := 31) C dL_law_29 (by decide) ?_
    obtain ⟨k, hk, e⟩ := k_and (xs j)
    refine g_iand (v := nI k) C dL_law_31 e ?_
    have kk := kk hj
    clear e q
    match k, hk with
    | 0, _ => exact g_tabIn (off := 112) (tgt := 144) C dL_law_32 (by decide +kernel) (by decide +kernel) (by decide +kernel) (by decide) (k_set C K hj hL h kk)
    | 1, _ => exact g_tabIn (off := 145) (tgt := 177) C dL_law_32 (by decide +kernel) (by decide +kernel) (by decide +kernel) (by decide) (k_setKind C K hj hL h kk)
    | 2, _ => exact g_tabIn (off := 178) (tgt := 210) C dL_law_32 (by decide +kernel) (by decide +kernel) (by decide +kernel) (by decide) (k_plan C K hj hL h kk)
    | 3, _ => exact g_tabIn (off := 211) (tgt := 243) C dL_law_32 (by decide +kernel) (by decide +kernel) (by decide +kernel) (by decide) (k_readPlan C K hj hL h kk)
    | 4, _ => exact g_tabIn (off := 224) (tgt := 256) C dL_law_32 (by decide +kernel) (by decide +kernel) (by decide +kernel) (by decide) (k_turn C K hj hL h kk)
    | 5, _ => exact g_tabIn (off := 257) (tgt := 289) C dL_law_32 (by decide +kernel) (by decide +kernel) (by decide +kernel) (by decide) (k_press C K hj hL h kk)
    | 6, _ => exact g_tabIn (off := 306) (tgt := 338) C dL_law_32 (by decide +kernel) (by decide +kernel) (by decide +kernel) (by decide) (k_igniter C K hj hL h kk)
    | 7, _ => exact g_tabIn (off := 355) (tgt := 387) C dL_law_32 (by decide +kernel) (by decide +kernel) (by decide +kernel) (by decide) (k_light C K hj hL h kk)
    | 8, _ => exact g_tabIn (off := 378) (tgt := 410) C dL_law_32 (by decide +kernel) (by decide +kernel) (by decide +kernel) (by decide) (k_unlock C K hj hL h kk)
    | 9, _ => exact g_tabIn (off := 401) (tgt := 433) C dL_law_32 (by decide +kernel) (by decide +kernel) (by decide +kernel) (by decide) (k_pass C K hj hL h kk)
    | 10, _ => exact g_tabIn (off := 424) (tgt := 456) C dL_law_32 (by decide +kernel) (by decide +kernel) (by decide +kernel) (by decide) (k_type C K hj hL h kk)
    | 11, _ => exact g_tabIn (off := 449) (tgt := 481) C dL_law_32 (by decide +kernel) (by decide +kernel) (by decide +kernel) (by decide) (k_clearText C K hj hL h kk)
    | 12, _ => exact g_tabIn (off := 462) (tgt := 494) C dL_law_32 (by decide +kernel) (by decide +kernel) (by decide +kernel) (by decide) (k_undo C K hj hL h kk)
    | 13, _ => exact g_tabIn (off := 475) (tgt := 507) C dL_law_32 (by decide +kernel) (by decide +kernel) (by decide +kernel) (by decide) (k_keep C K hj hL h kk)
    | 14, _ => exact g_tabIn (off := 488) (tgt := 520) C dL_law_32 (by decide +kernel) (by decide +kernel) (by decide +kernel) (by decide) (k_restore C K hj hL h kk)
    | 15, _ => exact g_tabIn (off := 501) (tgt := 533) C dL_law_32 (by decide +kernel) (by decide +kernel) (by decide +kernel) (by decide) (k_burner C K hj hL h kk)
    | 16, _ => exact g_tabIn (off := 534) (tgt := 566) C dL_law_32 (by decide +kernel) (by decide +kernel) (by decide +kernel) (by decide) (k_staysOpen C K hj hL h kk)
    | 17, _ => exact g_tabIn (off := 557) (tgt := 589) C dL_law_32 (by decide +kernel) (by decide +kernel) (by decide +kernel) (by decide) (k_toPress C K hj hL h kk)
    | 18, _ => exact g_tabIn (off := 590) (tgt := 622) C dL_law_32 (by decide +kernel) (by decide +kernel) (by decide +kernel) (by decide) (k_clearIn C K hj hL h kk)
    | 19, _ => exact g_tabIn (off := 603) (tgt := 635) C dL_law_32 (by decide +kernel) (by decide +kernel) (by decide +kernel) (by decide) (k_blownIn C K hj hL h kk)
    | 20, _ => exact g_tabIn (off := 626) (tgt := 658) C dL_law_32 (by decide +kernel) (by decide +kernel) (by decide +kernel) (by decide) (k_entry C K hj hL h kk)
    | 21, _ => exact g_tabIn (off := 659) (tgt := 691) C dL_law_32 (by decide +kernel) (by decide +kernel) (by decide +kernel) (by decide) (k_event C K hj hL h kk)
    | 22, _ => exact g_tabIn (off := 692) (tgt := 724) C dL_law_32 (by decide +kernel) (by decide +kernel) (by decide +kernel) (by decide) (k_count C K hj hL h kk)
    | 23, _ => exact g_tabIn (off := 715) (tgt := 747) C dL_law_32 (by decide +kernel) (by decide +kernel) (by decide +kernel) (by decide) (k_setting C K hj hL h kk)
    | k + 24, hk =>
      refine g_tabOut (tgt := 770) C dL_law_32 (Or.inr ?_) (by decide) (k_skip C (kk _ h))
      rw [nI_toInt (by omega)]
      omega
theorem k_loop (C : KC p s m b meth c sa D X) (K : KX s (LA s) b L xs) (hL : L ≤ 1536) (hr : meth.sig.returnType = ret) (hlk : meth.locks = false) : ∀ (n j : Nat) (ω : Mem), L ≤ j + n → j ≤ 1536 → LR ω ω → LV p l e s m b below meth c D X ad ω j 18 [] := by
  intro n
  induction n with
  | zero => exact fun j ω h1 h2 h => k_step C K hL (by omega) hr hlk h (fun q => absurd q (by omega))
  | succ n ih => exact fun j ω h1 h2 h => k_step C K hL (by omega) hr hlk h (fun q ω' h' => ih (j + 3) ω' (by omega) (by omega) h')
end
