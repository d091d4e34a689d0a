/-- the world from cell B on -/
def stW (B : Nat) (G : Nat → va_E) (c : List va_E) : Nat → va_E := fun j => if j < B then G j else c.getD (j - B) (.inr (0, []))
theorem stW_at {B k : Nat} {G : Nat → va_E} {c : List va_E} : stW B G c (B + k) = c.getD k (.inr (0, [])) := by
  unfold stW
  rw [if_neg (by omega), Nat.add_sub_cancel_left]
theorem stW_0 {B : Nat} {G : Nat → va_E} {c : List va_E} : stW B G c B = c.getD 0 (.inr (0, [])) := stW_at (k := 0)
theorem stW_up {B k : Nat} {G : Nat → va_E} {c : List va_E} {x : va_E} (hk : k < c.length) : va_up (stW B G c) (B + k) x = stW B G (c.set k x) := by
  funext j
  unfold va_up stW
  by_cases h : j = B + k
  · rw [if_pos h, if_neg (by omega), h, Nat.add_sub_cancel_left]
    simp [hk]
  · rw [if_neg h]
    by_cases h2 : j < B
    · rw [if_pos h2, if_pos h2]
    · rw [if_neg h2, if_neg h2]
      simp only [List.getD_eq_getElem?_getD]
      rw [List.getElem?_set_ne (by omega)]
theorem stW_push {B : Nat} {G : Nat → va_E} {c : List va_E} {x : va_E} : va_up (stW B G c) (B + c.length) x = stW B G (c ++ [x]) := by
  funext j
  unfold va_up stW
  by_cases h : j = B + c.length
  · rw [if_pos h, if_neg (by omega), h, Nat.add_sub_cancel_left]
    simp
  · rw [if_neg h]
    by_cases h2 : j < B
    · rw [if_pos h2, if_pos h2]
    · rw [if_neg h2, if_neg h2]
      simp only [List.getD_eq_getElem?_getD]
      by_cases h3 : j - B < c.length
      · rw [List.getElem?_append_left h3]
      · rw [List.getElem?_eq_none (by omega), List.getElem?_eq_none (by rw [List.length_append, List.length_singleton]; omega)]
theorem stW_app {B : Nat} {G : Nat → va_E} {c d : List va_E} : stW (B + c.length) (stW B G c) d = stW B G (c ++ d) := by
  funext j
  unfold stW
  by_cases h2 : j < B
  · rw [if_pos (by omega), if_pos h2, if_pos h2]
  · rw [if_neg h2]
    by_cases h3 : j - B < c.length
    · rw [if_pos (by omega), if_neg h2]
      simp only [List.getD_eq_getElem?_getD]
      rw [List.getElem?_append_left h3]
    · rw [if_neg (by omega), if_neg h2]
      simp only [List.getD_eq_getElem?_getD]
      rw [List.getElem?_append_right (by omega), show j - (B + c.length) = j - B - c.length by omega]
abbrev rm_X0_init : Room := { frames := 1, cells := 0, slots := 0, locals := 12 }
theorem c_X0_init {l_ : Launch} {sa : Nat → Nat} {D : va_G} {X : Nat → ClassId} {ad : Nat → Nat} {hb B : Nat} {G : Nat → va_E} (had : ∀ i, ad i = hb + i) (v : Int32) : CTN l_ yX0_init wsX0_init rm_X0_init sa D (tyX X) (B + 1) 0 0 ad (stW B G [.inr (0, [.int 0, .int 0, .int 0, .int 0, .int 0, .int 0, .int 0, .int 0, .int 0, .int 0])]) [.ref (ad B), .int v] none (stW B G [.inr (0, [.int v, .int 0, .int 0, .int 0, .int 0, .int 0, .int 0, .int 0, .int 0, .int 0])]) := by
  refine ctn_of had [(0, .ref (ad B)), (1, .int v)] (by decide +kernel) rfl rfl (Nat.le_of_ble_eq_true rfl) rfl ?_
  intro p_ e_ s_ m_ args_ below_ meth_ c_ C Z hret hlk hin
  have O1 : Cond.methodLink RX0 1 Lib.objectInit ∈ wsX0_init := by decide +kernel
  have O2 : Cond.instanceMethod Lib.objectInit ∈ wsX0_init := by decide +kernel
  have O3 : Cond.code Lib.objectInit ⟨#[0xb1]⟩ 1 none ∈ wsX0_init := by decide +kernel
  have iX0 : ∀ w ∈ u_ws RX0 TX0 10, w ∈ wsX0_init := by decide +kernel
  have L7 : Cond.fieldLink RX0 7 (TX0 0).1 (TX0 0).2.1 (TX0 0).2.2.1 ∈ wsX0_init := by decide +kernel
  refine g_aload_n C dX0_init_0 rfl 0 rfl ?_
  refine g_obj C O1 O2 O3 (Nat.le_of_ble_eq_true rfl) (Nat.le_of_ble_eq_true rfl) dX0_init_1 ?_
  refine g_aload_n C dX0_init_4 rfl 0 rfl ?_
  refine g_iload_n C dX0_init_5 rfl 1 rfl ?_
  refine g_put C iX0 tyX0 tyX0_ok nmX0 (Nat.lt_succ_self B) stW_0 rfl 0 (by decide) L7 rfl rfl rfl (Nat.le_of_ble_eq_true rfl) dX0_init_6 ?_
  refine gv_eqG (stW_up (k := 0) (by decide)) ?_
  exact g_vretN C hret hlk rfl (fun _ _ => rfl) dX0_init_9
